theorem hd_X4_isNumber : yX4_isNumber.cls ≠ "java/lang/invoke/MethodHandle" ∧ yX4_isNumber.cls ≠ "java/lang/invoke/VarHandle" ∧ (parseMethodDescriptor yX4_isNumber.desc).map (fun d => d.parameters.length) = some 1 := by decide +kernel
set_option maxHeartbeats 400000 in
set_option maxRecDepth 100000 in
theorem c_X4_isNumber (Λ : Lk) (X : XS) (Y : YS) {v : Int32} : Con Λ yX4_isNumber wsX4_isNumber { frames := 0, cells := 0, slots := 0, locals := 0 } [.int v] (CC Λ X Y) (some (.int (bI (inB v 0 2047)))) (CC Λ X Y) := by
  refine con_start (cc := cX4_isNumber) (maxL := 1) (ret := (some .boolean)) (by decide) rfl (Nat.le_of_ble_eq_true rfl) ?_
  intro κ hC hR
  have hC : Ok Λ { frames := 0, cells := 0, slots := 0, locals := 0 } cX4_isNumber wsX4_isNumber RX4 1 κ := hC
  refine v_args (lv' := [(0, .int v)]) rfl ?_
  refine v_iload_n hC dX4_isNumber_0 0 rfl ?_
  refine v_if_lt (tgt := 15) hC dX4_isNumber_1 (by decide) (fun c1 => ?_) (fun c1 => ?_)
  · have c1' := Int32.not_le.mpr c1
    refine v_iconst (v := 0) hC dX4_isNumber_15 (by decide) ?_
    exact v_zret hC hR (congrArg (fun z : Int32 => some (Value.int z)) (by rw [num_F1 c1]; rfl)) rfl rfl dX4_isNumber_16
  · have c1' := Int32.not_lt.mp c1
    refine v_iload_n hC dX4_isNumber_4 0 rfl ?_
    refine v_sipush (v := 2048) hC dX4_isNumber_5 (by decide) ?_
    refine v_icmp_ge (x := v) (y := 2048) (tgt := 15) hC dX4_isNumber_8 (by decide) (fun c8 => ?_) (fun c8 => ?_)
    · have c8' := Int32.not_lt.mpr c8
      refine v_iconst (v := 0) hC dX4_isNumber_15 (by decide) ?_
      exact v_zret hC hR (congrArg (fun z : Int32 => some (Value.int z)) (by rw [num_F2 c8]; rfl)) rfl rfl dX4_isNumber_16
    · have c8' := Int32.not_le.mp c8
      refine v_iconst (v := 1) hC dX4_isNumber_11 (by decide) ?_
      refine v_goto (tgt := 16) hC dX4_isNumber_12 (by decide) ?_
      exact v_zret hC hR (congrArg (fun z : Int32 => some (Value.int z)) (by rw [num_T c1 c8]; rfl)) rfl rfl dX4_isNumber_16
theorem wd_X0_holds_iniX4_isNumber : Cond.initialized (yX4_isNumber).cls ∈ wsX0_holds := by decide +kernel
theorem wd_X0_holds_stX4_isNumber : Cond.static yX4_isNumber ∈ wsX0_holds := by decide +kernel
theorem in_X0_holds_X0 : ∀ w ∈ wsX00, w ∈ wsX0_holds := by decide +kernel
theorem fl_X0_holds_9 : Cond.fieldLink RX0 9 "BoatSets$Fleet" "words" "[J" ∈ wsX0_holds := by decide +kernel
theorem hd_X0_holds : yX0_holds.cls = RX0 ∧ yX0_holds.cls ≠ "java/lang/invoke/MethodHandle" ∧ yX0_holds.cls ≠ "java/lang/invoke/VarHandle" ∧ (parseMethodDescriptor yX0_holds.desc).map (fun d => d.parameters.length) = some 1 := by decide +kernel
set_option maxHeartbeats 400000 in
set_option maxRecDepth 100000 in
theorem c_X0_holds (Λ : Lk) (X : XS) (Y : YS) {i : Nat} {f : FR} (hi : i < 37) (hf : X.1 i = f) {n : Nat} (hn : n < 2048) : Con Λ yX0_holds wsX0_holds { frames := 1, cells := 0, slots := 0, locals := 20 } [rf Λ (5 * i), .int (nI n)] (CC Λ X Y) (some (.int (bI (fbit (fw f) n)))) (CC Λ X Y) := by
  refine con_start (cc := cX0_holds) (maxL := 2) (ret := (some .boolean)) (by decide) rfl (Nat.le_of_ble_eq_true rfl) ?_
  intro κ hC hR
  have hC : Ok Λ { frames := 1, cells := 0, slots := 0, locals := 20 } cX0_holds wsX0_holds RX0 2 κ := hC
  refine v_args (lv' := [(0, rf Λ (5 * i)), (1, .int (nI n))]) rfl ?_
  refine v_iload_n hC dX0_holds_0 1 rfl ?_
  refine v_callNr (v := .int (bI (inB (nI n) 0 2047))) (C2 := CC Λ X Y) (As := [.int (nI n)]) (rest := []) (host := "BoatSets") hC 1 (c_X4_isNumber Λ X Y (v := nI n)) gX0_holds_X4_isNumber_n54 rfl rfl rfl (by decide +kernel) wd_X0_holds_iniX4_isNumber wd_X0_holds_stX4_isNumber hd_X4_isNumber ⟨by decide, by decide⟩ rfl rfl (Nat.le_of_ble_eq_true rfl) dX0_holds_1 ?_
  have c4 : inB (nI n) 0 2047 = true := isN_nI hn
  refine v_bneT (tgt := 9) hC dX0_holds_4 (by decide) c4 ?_
  refine v_aload_n hC dX0_holds_9 0 rfl ?_
  refine v_get (T := TX0) (N := 7) (v := rf Λ (5 * i + 1)) hC (5 * i) (rb_f0 hi) (cc_f0 Λ Y hi hf) in_X0_holds_X0 rfl 0 (by decide) fl_X0_holds_9 rfl dX0_holds_10 ?_
  refine v_iload_n hC dX0_holds_13 1 rfl ?_
  refine v_bipush (v := 64) hC dX0_holds_14 (by decide) ?_
  refine v_idiv (x := nI n) (y := 64) hC dX0_holds_16 (by decide) ?_
  refine v_topi (y := nI (n / 64)) (pk_div (a := n) (d := 64) (by omega) (by decide) (by decide)) ?_
  refine v_lald (n := 32) (f := (fw f)) hC (5 * i + 1) (rb_f hi (by decide)) (cc_f1 Λ Y hi hf) (n / 64) rfl (by omega) (by decide) dX0_holds_17 ?_
  refine v_iload_n hC dX0_holds_18 1 rfl ?_
  refine v_bipush (v := 64) hC dX0_holds_19 (by decide) ?_
  refine v_irem (x := nI n) (y := 64) hC dX0_holds_21 (by decide) ?_
  refine v_topi (y := nI (n % 64)) (pk_rem (a := n) (d := 64) (by omega) (by decide) (by decide)) ?_
  refine v_lushr (v := (((fw f) (n / 64)).toUInt64 >>> ((nI (n % 64)).toInt64.toUInt64 &&& Int64.toUInt64 63)).toInt64) hC dX0_holds_22 rfl ?_
  refine v_lconst (v := 1) hC dX0_holds_23 (by decide) ?_
  refine v_land hC dX0_holds_24 ?_
  refine v_lconst (v := 0) hC dX0_holds_25 (by decide) ?_
  refine v_lcmp hC dX0_holds_26 ?_
  refine v_topi (y := bI (fbit (fw f) n)) (bit64 _ (by omega)) ?_
  refine v_beq (b := fbit (fw f) n) (tgt := 34) hC dX0_holds_27 (by decide) (fun c27 => ?_) (fun c27 => ?_)
  · skip
    refine v_iconst (v := 0) hC dX0_holds_34 (by decide) ?_
    exact v_zret hC hR (congrArg (fun z : Int32 => some (Value.int z)) (by simp [bI, c27])) rfl rfl dX0_holds_35
  · skip
    refine v_iconst (v := 1) hC dX0_holds_30 (by decide) ?_
    refine v_goto (tgt := 35) hC dX0_holds_31 (by decide) ?_
    exact v_zret hC hR (congrArg (fun z : Int32 => some (Value.int z)) (by simp [bI, c27])) rfl rfl dX0_holds_35
theorem hd_X0_neighboursInBay : yX0_neighboursInBay.cls = RX0 ∧ yX0_neighboursInBay.cls ≠ "java/lang/invoke/MethodHandle" ∧ yX0_neighboursInBay.cls ≠ "java/lang/invoke/VarHandle" ∧ (parseMethodDescriptor yX0_neighboursInBay.desc).map (fun d => d.parameters.length) = some 1 := by decide +kernel
set_option maxHeartbeats 400000 in
set_option maxRecDepth 100000 in
theorem c_X0_neighboursInBay (Λ : Lk) (X : XS) (Y : YS) {i : Nat} {f : FR} (hi : i < 37) (hf : X.1 i = f) {n : Nat} (hn : n < 2048) : Con Λ yX0_neighboursInBay wsX0_neighboursInBay { frames := 2, cells := 0, slots := 0, locals := 41 } [rf Λ (5 * i), .int (nI n)] (CC Λ X Y) (some (.int (nI (nbN (fw f) n)))) (CC Λ X Y) := by
  refine con_start (cc := cX0_neighboursInBay) (maxL := 4) (ret := (some .int)) (by decide) rfl (Nat.le_of_ble_eq_true rfl) ?_
  intro κ hC hR
  have hC : Ok Λ { frames := 2, cells := 0, slots := 0, locals := 41 } cX0_neighboursInBay wsX0_neighboursInBay RX0 4 κ := hC
  refine v_args (lv' := [(0, rf Λ (5 * i)), (1, .int (nI n))]) rfl ?_
  refine v_iload_n hC dX0_neighboursInBay_0 1 rfl ?_
  refine v_sipush (v := 256) hC dX0_neighboursInBay_1 (by decide) ?_
  refine v_irem (x := nI n) (y := 256) hC dX0_neighboursInBay_4 (by decide) ?_
  refine v_topi (y := nI (n % 256)) (pk_rem (a := n) (d := 256) (by omega) (by decide) (by decide)) ?_
  refine v_istore_n (lv' := [(2, .int (nI (n % 256))), (0, rf Λ (5 * i)), (1, .int (nI n))]) hC dX0_neighboursInBay_5 (by decide) rfl ?_
  refine v_iconst (v := 0) hC dX0_neighboursInBay_6 (by decide) ?_
  refine v_istore_n (lv' := [(3, .int 0), (2, .int (nI (n % 256))), (0, rf Λ (5 * i)), (1, .int (nI n))]) hC dX0_neighboursInBay_7 (by decide) rfl ?_
  refine v_iload_n hC dX0_neighboursInBay_8 1 rfl ?_
  refine v_zle (a := n % 256) (tgt := 25) hC dX0_neighboursInBay_9 (by decide) rfl (by omega) (fun c9 => ?_) (fun c9 => ?_)
  · skip
    refine v_iload_n hC dX0_neighboursInBay_25 1 rfl ?_
    refine v_sipush (v := 255) hC dX0_neighboursInBay_26 (by decide) ?_
    refine v_nge (a := n % 256) (b := 255) (tgt := 45) hC dX0_neighboursInBay_29 (by decide) rfl rfl (by omega) (by omega) (fun c29 => ?_) (fun c29 => ?_)
    · have c29' := Nat.not_lt.mpr c29
      refine v_iload_n hC dX0_neighboursInBay_45 0 rfl ?_
      exact v_iret hC hR (congrArg (fun z : Int32 => some (Value.int z)) (by simp [nbN, show ∀ m : Nat, nI m = nI m from fun _ => rfl, c9, c29, c29'] <;> first | rfl | (intro h; omega) | (rw [if_neg (by omega)]; rfl))) rfl dX0_neighboursInBay_46
    · have c29' := Nat.not_le.mpr c29
      refine v_aload_n hC dX0_neighboursInBay_32 2 rfl ?_
      refine v_iload_n hC dX0_neighboursInBay_33 3 rfl ?_
      refine v_iconst (v := 1) hC dX0_neighboursInBay_34 (by decide) ?_
      refine v_iadd (x := nI n) (y := 1) hC dX0_neighboursInBay_35 ?_
      refine v_topi (y := nI (n + 1)) (nI_add n 1) ?_
      refine v_callVr (v := .int (bI (fbit (fw f) (n + 1)))) (C2 := CC Λ X Y) (As := [.int (nI (n + 1))]) (rest := []) hC 1 (5 * i) (c_X0_holds Λ X Y (i := i) (f := f) hi hf (n := n + 1) (by omega)) (rb_f0 hi) (cc_f0 Λ Y hi hf) rfl gX0_neighboursInBay_X0_holds rfl rfl rfl hd_X0_holds ⟨by decide, by decide⟩ rfl rfl (Nat.le_of_ble_eq_true rfl) dX0_neighboursInBay_36 ?_
      refine v_beq (b := fbit (fw f) (n + 1)) (tgt := 45) hC dX0_neighboursInBay_39 (by decide) (fun c39 => ?_) (fun c39 => ?_)
      · skip
        refine v_iload_n hC dX0_neighboursInBay_45 0 rfl ?_
        exact v_iret hC hR (congrArg (fun z : Int32 => some (Value.int z)) (by simp [nbN, show ∀ m : Nat, nI m = nI m from fun _ => rfl, c9, c29, c29', c39] <;> first | rfl | (intro h; omega) | (rw [if_neg (by omega)]; rfl))) rfl dX0_neighboursInBay_46
      · skip
        refine v_iinc (j := 0) (v := 1) (lv' := [(3, .int 1), (2, .int (nI (n % 256))), (0, rf Λ (5 * i)), (1, .int (nI n))]) hC dX0_neighboursInBay_42 rfl (nI_add 0 1) (by decide) rfl ?_
        refine v_iload_n hC dX0_neighboursInBay_45 0 rfl ?_
        exact v_iret hC hR (congrArg (fun z : Int32 => some (Value.int z)) (by simp [nbN, show ∀ m : Nat, nI m = nI m from fun _ => rfl, c9, c29, c29', c39] <;> first | rfl | (intro h; omega) | (rw [if_neg (by omega)]; rfl))) rfl dX0_neighboursInBay_46
  · skip
    refine v_aload_n hC dX0_neighboursInBay_12 2 rfl ?_
    refine v_iload_n hC dX0_neighboursInBay_13 3 rfl ?_
    refine v_iconst (v := 1) hC dX0_neighboursInBay_14 (by decide) ?_
    refine v_isub (x := nI n) (y := 1) hC dX0_neighboursInBay_15 ?_
    refine v_topi (y := nI (n - 1)) (pk_sub (a := n) (b := 1) (by omega)) ?_
    refine v_callVr (v := .int (bI (fbit (fw f) (n - 1)))) (C2 := CC Λ X Y) (As := [.int (nI (n - 1))]) (rest := []) hC 1 (5 * i) (c_X0_holds Λ X Y (i := i) (f := f) hi hf (n := n - 1) (by omega)) (rb_f0 hi) (cc_f0 Λ Y hi hf) rfl gX0_neighboursInBay_X0_holds rfl rfl rfl hd_X0_holds ⟨by decide, by decide⟩ rfl rfl (Nat.le_of_ble_eq_true rfl) dX0_neighboursInBay_16 ?_
    refine v_beq (b := fbit (fw f) (n - 1)) (tgt := 25) hC dX0_neighboursInBay_19 (by decide) (fun c19 => ?_) (fun c19 => ?_)
    · skip
      refine v_iload_n hC dX0_neighboursInBay_25 1 rfl ?_
      refine v_sipush (v := 255) hC dX0_neighboursInBay_26 (by decide) ?_
      refine v_nge (a := n % 256) (b := 255) (tgt := 45) hC dX0_neighboursInBay_29 (by decide) rfl rfl (by omega) (by omega) (fun c29 => ?_) (fun c29 => ?_)
      · have c29' := Nat.not_lt.mpr c29
        refine v_iload_n hC dX0_neighboursInBay_45 0 rfl ?_
        exact v_iret hC hR (congrArg (fun z : Int32 => some (Value.int z)) (by simp [nbN, show ∀ m : Nat, nI m = nI m from fun _ => rfl, c9, c19, c29, c29'] <;> first | rfl | (intro h; omega) | (rw [if_neg (by omega)]; rfl))) rfl dX0_neighboursInBay_46
      · have c29' := Nat.not_le.mpr c29
        refine v_aload_n hC dX0_neighboursInBay_32 2 rfl ?_
        refine v_iload_n hC dX0_neighboursInBay_33 3 rfl ?_
        refine v_iconst (v := 1) hC dX0_neighboursInBay_34 (by decide) ?_
        refine v_iadd (x := nI n) (y := 1) hC dX0_neighboursInBay_35 ?_
        refine v_topi (y := nI (n + 1)) (nI_add n 1) ?_
        refine v_callVr (v := .int (bI (fbit (fw f) (n + 1)))) (C2 := CC Λ X Y) (As := [.int (nI (n + 1))]) (rest := []) hC 1 (5 * i) (c_X0_holds Λ X Y (i := i) (f := f) hi hf (n := n + 1) (by omega)) (rb_f0 hi) (cc_f0 Λ Y hi hf) rfl gX0_neighboursInBay_X0_holds rfl rfl rfl hd_X0_holds ⟨by decide, by decide⟩ rfl rfl (Nat.le_of_ble_eq_true rfl) dX0_neighboursInBay_36 ?_
        refine v_beq (b := fbit (fw f) (n + 1)) (tgt := 45) hC dX0_neighboursInBay_39 (by decide) (fun c39 => ?_) (fun c39 => ?_)
        · skip
          refine v_iload_n hC dX0_neighboursInBay_45 0 rfl ?_
          exact v_iret hC hR (congrArg (fun z : Int32 => some (Value.int z)) (by simp [nbN, show ∀ m : Nat, nI m = nI m from fun _ => rfl, c9, c19, c29, c29', c39] <;> first | rfl | (intro h; omega) | (rw [if_neg (by omega)]; rfl))) rfl dX0_neighboursInBay_46
        · skip
          refine v_iinc (j := 0) (v := 1) (lv' := [(3, .int 1), (2, .int (nI (n % 256))), (0, rf Λ (5 * i)), (1, .int (nI n))]) hC dX0_neighboursInBay_42 rfl (nI_add 0 1) (by decide) rfl ?_
          refine v_iload_n hC dX0_neighboursInBay_45 0 rfl ?_
          exact v_iret hC hR (congrArg (fun z : Int32 => some (Value.int z)) (by simp [nbN, show ∀ m : Nat, nI m = nI m from fun _ => rfl, c9, c19, c29, c29', c39] <;> first | rfl | (intro h; omega) | (rw [if_neg (by omega)]; rfl))) rfl dX0_neighboursInBay_46
    · skip
      refine v_iinc (j := 0) (v := 1) (lv' := [(3, .int 1), (2, .int (nI (n % 256))), (0, rf Λ (5 * i)), (1, .int (nI n))]) hC dX0_neighboursInBay_22 rfl (nI_add 0 1) (by decide) rfl ?_
      refine v_iload_n hC dX0_neighboursInBay_25 1 rfl ?_
      refine v_sipush (v := 255) hC dX0_neighboursInBay_26 (by decide) ?_
      refine v_nge (a := n % 256) (b := 255) (tgt := 45) hC dX0_neighboursInBay_29 (by decide) rfl rfl (by omega) (by omega) (fun c29 => ?_) (fun c29 => ?_)
      · have c29' := Nat.not_lt.mpr c29
        refine v_iload_n hC dX0_neighboursInBay_45 0 rfl ?_
        exact v_iret hC hR (congrArg (fun z : Int32 => some (Value.int z)) (by simp [nbN, show ∀ m : Nat, nI m = nI m from fun _ => rfl, c9, c19, c29, c29'] <;> first | rfl | (intro h; omega) | (rw [if_neg (by omega)]; rfl))) rfl dX0_neighboursInBay_46
      · have c29' := Nat.not_le.mpr c29
        refine v_aload_n hC dX0_neighboursInBay_32 2 rfl ?_
        refine v_iload_n hC dX0_neighboursInBay_33 3 rfl ?_
        refine v_iconst (v := 1) hC dX0_neighboursInBay_34 (by decide) ?_
        refine v_iadd (x := nI n) (y := 1) hC dX0_neighboursInBay_35 ?_
        refine v_topi (y := nI (n + 1)) (nI_add n 1) ?_
        refine v_callVr (v := .int (bI (fbit (fw f) (n + 1)))) (C2 := CC Λ X Y) (As := [.int (nI (n + 1))]) (rest := []) hC 1 (5 * i) (c_X0_holds Λ X Y (i := i) (f := f) hi hf (n := n + 1) (by omega)) (rb_f0 hi) (cc_f0 Λ Y hi hf) rfl gX0_neighboursInBay_X0_holds rfl rfl rfl hd_X0_holds ⟨by decide, by decide⟩ rfl rfl (Nat.le_of_ble_eq_true rfl) dX0_neighboursInBay_36 ?_
        refine v_beq (b := fbit (fw f) (n + 1)) (tgt := 45) hC dX0_neighboursInBay_39 (by decide) (fun c39 => ?_) (fun c39 => ?_)
        · skip
          refine v_iload_n hC dX0_neighboursInBay_45 0 rfl ?_
          exact v_iret hC hR (congrArg (fun z : Int32 => some (Value.int z)) (by simp [nbN, show ∀ m : Nat, nI m = nI m from fun _ => rfl, c9, c19, c29, c29', c39] <;> first | rfl | (intro h; omega) | (rw [if_neg (by omega)]; rfl))) rfl dX0_neighboursInBay_46
        · skip
          refine v_iinc (j := 0) (v := 2) (lv' := [(3, .int 2), (2, .int (nI (n % 256))), (0, rf Λ (5 * i)), (1, .int (nI n))]) hC dX0_neighboursInBay_42 rfl (nI_add 1 1) (by decide) rfl ?_
          refine v_iload_n hC dX0_neighboursInBay_45 0 rfl ?_
          exact v_iret hC hR (congrArg (fun z : Int32 => some (Value.int z)) (by simp [nbN, show ∀ m : Nat, nI m = nI m from fun _ => rfl, c9, c19, c29, c29', c39] <;> first | rfl | (intro h; omega) | (rw [if_neg (by omega)]; rfl))) rfl dX0_neighboursInBay_46
theorem wd_X0_flip_iniX4_isNumber : Cond.initialized (yX4_isNumber).cls ∈ wsX0_flip := by decide +kernel
theorem wd_X0_flip_stX4_isNumber : Cond.static yX4_isNumber ∈ wsX0_flip := by decide +kernel
theorem in_X0_flip_X0 : ∀ w ∈ wsX00, w ∈ wsX0_flip := by decide +kernel
theorem fl_X0_flip_9 : Cond.fieldLink RX0 9 "BoatSets$Fleet" "words" "[J" ∈ wsX0_flip := by decide +kernel
theorem fl_X0_flip_19 : Cond.fieldLink RX0 19 "BoatSets$Fleet" "sizes" "[I" ∈ wsX0_flip := by decide +kernel
theorem fl_X0_flip_22 : Cond.fieldLink RX0 22 "BoatSets$Fleet" "runs" "[I" ∈ wsX0_flip := by decide +kernel
theorem hd_X0_flip : yX0_flip.cls = RX0 ∧ yX0_flip.cls ≠ "java/lang/invoke/MethodHandle" ∧ yX0_flip.cls ≠ "java/lang/invoke/VarHandle" ∧ (parseMethodDescriptor yX0_flip.desc).map (fun d => d.parameters.length) = some 1 := by decide +kernel
set_option maxHeartbeats 400000 in
set_option maxRecDepth 100000 in
theorem c_X0_flip (Λ : Lk) (X : XS) (Y : YS) {i : Nat} {f : FR} (hi : i < 37) (hf : X.1 i = f) {n : Nat} (hn : n < 2048) : Con Λ yX0_flip wsX0_flip { frames := 3, cells := 0, slots := 0, locals := 64 } [rf Λ (5 * i), .int (nI n)] (CC Λ X Y) none (CC Λ (xFi X i (flipF f n)) Y) := by
  refine con_start (cc := cX0_flip) (maxL := 4) (ret := none) (by decide) rfl (Nat.le_of_ble_eq_true rfl) ?_
  intro κ hC hR
  have hC : Ok Λ { frames := 3, cells := 0, slots := 0, locals := 64 } cX0_flip wsX0_flip RX0 4 κ := hC
  refine v_args (lv' := [(0, rf Λ (5 * i)), (1, .int (nI n))]) rfl ?_
  refine v_mem (congrArg (fun Z => CC Λ Z Y) (xFi_self hf)) ?_
  refine v_iload_n hC dX0_flip_0 1 rfl ?_
  refine v_callNr (v := .int (bI (inB (nI n) 0 2047))) (C2 := CC Λ (xFi X i f) Y) (As := [.int (nI n)]) (rest := []) (host := "BoatSets") hC 1 (c_X4_isNumber Λ (xFi X i f) Y (v := nI n)) gX0_flip_X4_isNumber_n54 rfl rfl rfl (by decide +kernel) wd_X0_flip_iniX4_isNumber wd_X0_flip_stX4_isNumber hd_X4_isNumber ⟨by decide, by decide⟩ rfl rfl (Nat.le_of_ble_eq_true rfl) dX0_flip_1 ?_
  have c4 : inB (nI n) 0 2047 = true := isN_nI hn
  refine v_bneT (tgt := 8) hC dX0_flip_4 (by decide) c4 ?_
  refine v_iload_n hC dX0_flip_8 1 rfl ?_
  refine v_sipush (v := 256) hC dX0_flip_9 (by decide) ?_
  refine v_idiv (x := nI n) (y := 256) hC dX0_flip_12 (by decide) ?_
  refine v_topi (y := nI (n / 256)) (pk_div (a := n) (d := 256) (by omega) (by decide) (by decide)) ?_
  refine v_istore_n (lv' := [(2, .int (nI (n / 256))), (0, rf Λ (5 * i)), (1, .int (nI n))]) hC dX0_flip_13 (by decide) rfl ?_
  refine v_aload_n hC dX0_flip_14 1 rfl ?_
  refine v_iload_n hC dX0_flip_15 2 rfl ?_
  refine v_callVr (v := .int (bI (fbit (fw f) n))) (C2 := CC Λ (xFi X i f) Y) (As := [.int (nI n)]) (rest := []) hC 1 (5 * i) (c_X0_holds Λ (xFi X i f) Y (i := i) (f := f) hi (xFi_at X i f) (n := n) (by omega)) (rb_f0 hi) (cc_f0 Λ Y hi (xFi_at X i f)) rfl gX0_flip_X0_holds rfl rfl rfl hd_X0_holds ⟨by decide, by decide⟩ rfl rfl (Nat.le_of_ble_eq_true rfl) dX0_flip_16 ?_
  have J27 : ∀ (y0 : Int32), y0 = chI (fbit (fw f) n) → V Λ κ (CC Λ (xFi X i f) Y) 27 [(0, rf Λ (5 * i)), (1, .int (nI n)), (2, .int (nI (n / 256)))] [.int y0] := by
    intro y0 f0
    subst f0
    refine v_istore_n (lv' := [(3, .int (chI (fbit (fw f) n))), (0, rf Λ (5 * i)), (1, .int (nI n)), (2, .int (nI (n / 256)))]) hC dX0_flip_27 (by decide) rfl ?_
    refine v_aload_n hC dX0_flip_28 1 rfl ?_
    refine v_get (T := TX0) (N := 7) (v := rf Λ (5 * i + 1)) hC (5 * i) (rb_f0 hi) (cc_f0 Λ Y hi (xFi_at X i f)) in_X0_flip_X0 rfl 0 (by decide) fl_X0_flip_9 rfl dX0_flip_29 ?_
    refine v_iload_n hC dX0_flip_32 2 rfl ?_
    refine v_bipush (v := 64) hC dX0_flip_33 (by decide) ?_
    refine v_idiv (x := nI n) (y := 64) hC dX0_flip_35 (by decide) ?_
    refine v_topi (y := nI (n / 64)) (pk_div (a := n) (d := 64) (by omega) (by decide) (by decide)) ?_
    refine v_dup2 hC dX0_flip_36 rfl rfl ?_
    refine v_lald (n := 32) (f := (fw f)) hC (5 * i + 1) (rb_f hi (by decide)) (cc_f1 Λ Y hi (xFi_at X i f)) (n / 64) rfl (by omega) (by decide) dX0_flip_37 ?_
    refine v_lconst (v := 1) hC dX0_flip_38 (by decide) ?_
    refine v_iload_n hC dX0_flip_39 2 rfl ?_
    refine v_bipush (v := 64) hC dX0_flip_40 (by decide) ?_
    refine v_irem (x := nI n) (y := 64) hC dX0_flip_42 (by decide) ?_
    refine v_topi (y := nI (n % 64)) (pk_rem (a := n) (d := 64) (by omega) (by decide) (by decide)) ?_
    refine v_lshl (v := onL n) hC dX0_flip_43 rfl ?_
    refine v_lxor hC dX0_flip_44 ?_
    refine v_last (n := 32) (f := (fw f)) hC (5 * i + 1) (rb_f hi (by decide)) (cc_f1 Λ Y hi (xFi_at X i f)) (n / 64) rfl (by omega) (by decide) dX0_flip_45 ?_
    refine v_mem (cs_fw Λ X Y f (vp_updL (fw f) (n / 64) (((fw f) (n / 64)) ^^^ (onL n))) hi) ?_
    refine v_aload_n hC dX0_flip_46 1 rfl ?_
    refine v_get (T := TX0) (N := 7) (v := rf Λ (5 * i + 3)) hC (5 * i) (rb_f0 hi) (cc_f0 Λ Y hi (xFi_at X i (fwS f (vp_updL (fw f) (n / 64) (((fw f) (n / 64)) ^^^ (onL n)))))) in_X0_flip_X0 rfl 2 (by decide) fl_X0_flip_19 rfl dX0_flip_47 ?_
    refine v_iload_n hC dX0_flip_50 3 rfl ?_
    refine v_dup2 hC dX0_flip_51 rfl rfl ?_
    refine v_iald (n := 8) (f := (fs (fwS f (vp_updL (fw f) (n / 64) (((fw f) (n / 64)) ^^^ (onL n)))))) hC (5 * i + 3) (rb_f hi (by decide)) (cc_f3 Λ Y hi (xFi_at X i (fwS f (vp_updL (fw f) (n / 64) (((fw f) (n / 64)) ^^^ (onL n)))))) (n / 256) rfl (by omega) (by decide) dX0_flip_52 ?_
    refine v_iload_n hC dX0_flip_53 0 rfl ?_
    refine v_iadd (x := (fs (fwS f (vp_updL (fw f) (n / 64) (((fw f) (n / 64)) ^^^ (onL n))))) (n / 256)) (y := chI (fbit (fw f) n)) hC dX0_flip_54 ?_
    refine v_iast (n := 8) (f := (fs (fwS f (vp_updL (fw f) (n / 64) (((fw f) (n / 64)) ^^^ (onL n)))))) hC (5 * i + 3) (rb_f hi (by decide)) (cc_f3 Λ Y hi (xFi_at X i (fwS f (vp_updL (fw f) (n / 64) (((fw f) (n / 64)) ^^^ (onL n)))))) (n / 256) rfl (by omega) (by decide) dX0_flip_55 ?_
    refine v_mem (cs_fs Λ X Y (fwS f (vp_updL (fw f) (n / 64) (((fw f) (n / 64)) ^^^ (onL n)))) (upd (fs (fwS f (vp_updL (fw f) (n / 64) (((fw f) (n / 64)) ^^^ (onL n))))) (n / 256) (((fs (fwS f (vp_updL (fw f) (n / 64) (((fw f) (n / 64)) ^^^ (onL n))))) (n / 256)) + (chI (fbit (fw f) n)))) hi) ?_
    refine v_aload_n hC dX0_flip_56 1 rfl ?_
    refine v_get (T := TX0) (N := 7) (v := rf Λ (5 * i + 4)) hC (5 * i) (rb_f0 hi) (cc_f0 Λ Y hi (xFi_at X i (fsS (fwS f (vp_updL (fw f) (n / 64) (((fw f) (n / 64)) ^^^ (onL n)))) (upd (fs (fwS f (vp_updL (fw f) (n / 64) (((fw f) (n / 64)) ^^^ (onL n))))) (n / 256) (((fs (fwS f (vp_updL (fw f) (n / 64) (((fw f) (n / 64)) ^^^ (onL n))))) (n / 256)) + (chI (fbit (fw f) n))))))) in_X0_flip_X0 rfl 3 (by decide) fl_X0_flip_22 rfl dX0_flip_57 ?_
    refine v_iload_n hC dX0_flip_60 3 rfl ?_
    refine v_dup2 hC dX0_flip_61 rfl rfl ?_
    refine v_iald (n := 8) (f := (fr (fsS (fwS f (vp_updL (fw f) (n / 64) (((fw f) (n / 64)) ^^^ (onL n)))) (upd (fs (fwS f (vp_updL (fw f) (n / 64) (((fw f) (n / 64)) ^^^ (onL n))))) (n / 256) (((fs (fwS f (vp_updL (fw f) (n / 64) (((fw f) (n / 64)) ^^^ (onL n))))) (n / 256)) + (chI (fbit (fw f) n))))))) hC (5 * i + 4) (rb_f hi (by decide)) (cc_f4 Λ Y hi (xFi_at X i (fsS (fwS f (vp_updL (fw f) (n / 64) (((fw f) (n / 64)) ^^^ (onL n)))) (upd (fs (fwS f (vp_updL (fw f) (n / 64) (((fw f) (n / 64)) ^^^ (onL n))))) (n / 256) (((fs (fwS f (vp_updL (fw f) (n / 64) (((fw f) (n / 64)) ^^^ (onL n))))) (n / 256)) + (chI (fbit (fw f) n))))))) (n / 256) rfl (by omega) (by decide) dX0_flip_62 ?_
    refine v_iload_n hC dX0_flip_63 0 rfl ?_
    refine v_iconst (v := 1) hC dX0_flip_64 (by decide) ?_
    refine v_aload_n hC dX0_flip_65 1 rfl ?_
    refine v_iload_n hC dX0_flip_66 2 rfl ?_
    refine v_callVr (v := .int (nI (nbN (fw (fsS (fwS f (vp_updL (fw f) (n / 64) (((fw f) (n / 64)) ^^^ (onL n)))) (upd (fs (fwS f (vp_updL (fw f) (n / 64) (((fw f) (n / 64)) ^^^ (onL n))))) (n / 256) (((fs (fwS f (vp_updL (fw f) (n / 64) (((fw f) (n / 64)) ^^^ (onL n))))) (n / 256)) + (chI (fbit (fw f) n)))))) n))) (C2 := CC Λ (xFi X i (fsS (fwS f (vp_updL (fw f) (n / 64) (((fw f) (n / 64)) ^^^ (onL n)))) (upd (fs (fwS f (vp_updL (fw f) (n / 64) (((fw f) (n / 64)) ^^^ (onL n))))) (n / 256) (((fs (fwS f (vp_updL (fw f) (n / 64) (((fw f) (n / 64)) ^^^ (onL n))))) (n / 256)) + (chI (fbit (fw f) n)))))) Y) (As := [.int (nI n)]) (rest := [.int 1, .int (chI (fbit (fw f) n)), .int ((fr (fsS (fwS f (vp_updL (fw f) (n / 64) (((fw f) (n / 64)) ^^^ (onL n)))) (upd (fs (fwS f (vp_updL (fw f) (n / 64) (((fw f) (n / 64)) ^^^ (onL n))))) (n / 256) (((fs (fwS f (vp_updL (fw f) (n / 64) (((fw f) (n / 64)) ^^^ (onL n))))) (n / 256)) + (chI (fbit (fw f) n)))))) (n / 256)), .int (nI (n / 256)), rf Λ (5 * i + 4)]) hC 1 (5 * i) (c_X0_neighboursInBay Λ (xFi X i (fsS (fwS f (vp_updL (fw f) (n / 64) (((fw f) (n / 64)) ^^^ (onL n)))) (upd (fs (fwS f (vp_updL (fw f) (n / 64) (((fw f) (n / 64)) ^^^ (onL n))))) (n / 256) (((fs (fwS f (vp_updL (fw f) (n / 64) (((fw f) (n / 64)) ^^^ (onL n))))) (n / 256)) + (chI (fbit (fw f) n)))))) Y (i := i) (f := (fsS (fwS f (vp_updL (fw f) (n / 64) (((fw f) (n / 64)) ^^^ (onL n)))) (upd (fs (fwS f (vp_updL (fw f) (n / 64) (((fw f) (n / 64)) ^^^ (onL n))))) (n / 256) (((fs (fwS f (vp_updL (fw f) (n / 64) (((fw f) (n / 64)) ^^^ (onL n))))) (n / 256)) + (chI (fbit (fw f) n)))))) hi (xFi_at X i (fsS (fwS f (vp_updL (fw f) (n / 64) (((fw f) (n / 64)) ^^^ (onL n)))) (upd (fs (fwS f (vp_updL (fw f) (n / 64) (((fw f) (n / 64)) ^^^ (onL n))))) (n / 256) (((fs (fwS f (vp_updL (fw f) (n / 64) (((fw f) (n / 64)) ^^^ (onL n))))) (n / 256)) + (chI (fbit (fw f) n)))))) (n := n) (by omega)) (rb_f0 hi) (cc_f0 Λ Y hi (xFi_at X i (fsS (fwS f (vp_updL (fw f) (n / 64) (((fw f) (n / 64)) ^^^ (onL n)))) (upd (fs (fwS f (vp_updL (fw f) (n / 64) (((fw f) (n / 64)) ^^^ (onL n))))) (n / 256) (((fs (fwS f (vp_updL (fw f) (n / 64) (((fw f) (n / 64)) ^^^ (onL n))))) (n / 256)) + (chI (fbit (fw f) n))))))) rfl gX0_flip_X0_neighboursInBay rfl rfl rfl hd_X0_neighboursInBay ⟨by decide, by decide⟩ rfl rfl (Nat.le_of_ble_eq_true rfl) dX0_flip_67 ?_
    have hn67 := nbN_le (fw (fsS (fwS f (vp_updL (fw f) (n / 64) (((fw f) (n / 64)) ^^^ (onL n)))) (upd (fs (fwS f (vp_updL (fw f) (n / 64) (((fw f) (n / 64)) ^^^ (onL n))))) (n / 256) (((fs (fwS f (vp_updL (fw f) (n / 64) (((fw f) (n / 64)) ^^^ (onL n))))) (n / 256)) + (chI (fbit (fw f) n)))))) n
    refine v_isub (x := 1) (y := nI (nbN (fw (fsS (fwS f (vp_updL (fw f) (n / 64) (((fw f) (n / 64)) ^^^ (onL n)))) (upd (fs (fwS f (vp_updL (fw f) (n / 64) (((fw f) (n / 64)) ^^^ (onL n))))) (n / 256) (((fs (fwS f (vp_updL (fw f) (n / 64) (((fw f) (n / 64)) ^^^ (onL n))))) (n / 256)) + (chI (fbit (fw f) n)))))) n)) hC dX0_flip_70 ?_
    refine v_imul (x := chI (fbit (fw f) n)) (y := 1 - (nI (nbN (fw (fsS (fwS f (vp_updL (fw f) (n / 64) (((fw f) (n / 64)) ^^^ (onL n)))) (upd (fs (fwS f (vp_updL (fw f) (n / 64) (((fw f) (n / 64)) ^^^ (onL n))))) (n / 256) (((fs (fwS f (vp_updL (fw f) (n / 64) (((fw f) (n / 64)) ^^^ (onL n))))) (n / 256)) + (chI (fbit (fw f) n)))))) n))) hC dX0_flip_71 ?_
    refine v_iadd (x := (fr (fsS (fwS f (vp_updL (fw f) (n / 64) (((fw f) (n / 64)) ^^^ (onL n)))) (upd (fs (fwS f (vp_updL (fw f) (n / 64) (((fw f) (n / 64)) ^^^ (onL n))))) (n / 256) (((fs (fwS f (vp_updL (fw f) (n / 64) (((fw f) (n / 64)) ^^^ (onL n))))) (n / 256)) + (chI (fbit (fw f) n)))))) (n / 256)) (y := (chI (fbit (fw f) n)) * (1 - (nI (nbN (fw (fsS (fwS f (vp_updL (fw f) (n / 64) (((fw f) (n / 64)) ^^^ (onL n)))) (upd (fs (fwS f (vp_updL (fw f) (n / 64) (((fw f) (n / 64)) ^^^ (onL n))))) (n / 256) (((fs (fwS f (vp_updL (fw f) (n / 64) (((fw f) (n / 64)) ^^^ (onL n))))) (n / 256)) + (chI (fbit (fw f) n)))))) n)))) hC dX0_flip_72 ?_
    refine v_iast (n := 8) (f := (fr (fsS (fwS f (vp_updL (fw f) (n / 64) (((fw f) (n / 64)) ^^^ (onL n)))) (upd (fs (fwS f (vp_updL (fw f) (n / 64) (((fw f) (n / 64)) ^^^ (onL n))))) (n / 256) (((fs (fwS f (vp_updL (fw f) (n / 64) (((fw f) (n / 64)) ^^^ (onL n))))) (n / 256)) + (chI (fbit (fw f) n))))))) hC (5 * i + 4) (rb_f hi (by decide)) (cc_f4 Λ Y hi (xFi_at X i (fsS (fwS f (vp_updL (fw f) (n / 64) (((fw f) (n / 64)) ^^^ (onL n)))) (upd (fs (fwS f (vp_updL (fw f) (n / 64) (((fw f) (n / 64)) ^^^ (onL n))))) (n / 256) (((fs (fwS f (vp_updL (fw f) (n / 64) (((fw f) (n / 64)) ^^^ (onL n))))) (n / 256)) + (chI (fbit (fw f) n))))))) (n / 256) rfl (by omega) (by decide) dX0_flip_73 ?_
    refine v_mem (cs_fr Λ X Y (fsS (fwS f (vp_updL (fw f) (n / 64) (((fw f) (n / 64)) ^^^ (onL n)))) (upd (fs (fwS f (vp_updL (fw f) (n / 64) (((fw f) (n / 64)) ^^^ (onL n))))) (n / 256) (((fs (fwS f (vp_updL (fw f) (n / 64) (((fw f) (n / 64)) ^^^ (onL n))))) (n / 256)) + (chI (fbit (fw f) n))))) (upd (fr (fsS (fwS f (vp_updL (fw f) (n / 64) (((fw f) (n / 64)) ^^^ (onL n)))) (upd (fs (fwS f (vp_updL (fw f) (n / 64) (((fw f) (n / 64)) ^^^ (onL n))))) (n / 256) (((fs (fwS f (vp_updL (fw f) (n / 64) (((fw f) (n / 64)) ^^^ (onL n))))) (n / 256)) + (chI (fbit (fw f) n)))))) (n / 256) (((fr (fsS (fwS f (vp_updL (fw f) (n / 64) (((fw f) (n / 64)) ^^^ (onL n)))) (upd (fs (fwS f (vp_updL (fw f) (n / 64) (((fw f) (n / 64)) ^^^ (onL n))))) (n / 256) (((fs (fwS f (vp_updL (fw f) (n / 64) (((fw f) (n / 64)) ^^^ (onL n))))) (n / 256)) + (chI (fbit (fw f) n)))))) (n / 256)) + ((chI (fbit (fw f) n)) * (1 - (nI (nbN (fw (fsS (fwS f (vp_updL (fw f) (n / 64) (((fw f) (n / 64)) ^^^ (onL n)))) (upd (fs (fwS f (vp_updL (fw f) (n / 64) (((fw f) (n / 64)) ^^^ (onL n))))) (n / 256) (((fs (fwS f (vp_updL (fw f) (n / 64) (((fw f) (n / 64)) ^^^ (onL n))))) (n / 256)) + (chI (fbit (fw f) n)))))) n)))))) hi) ?_
    exact v_vret hC hR rfl rfl dX0_flip_74
  refine v_beq (b := fbit (fw f) n) (tgt := 26) hC dX0_flip_19 (by decide) (fun c19 => ?_) (fun c19 => ?_)
  · skip
    refine v_iconst (v := 1) hC dX0_flip_26 (by decide) ?_
    refine v_sub (lv' := [(0, rf Λ (5 * i)), (1, .int (nI n)), (2, .int (nI (n / 256)))]) [1, 2, 0] rfl ?_
    exact J27  _  (by rw [c19]; rfl)
  · skip
    refine v_iconst (v := (-1)) hC dX0_flip_22 (by decide) ?_
    refine v_goto (tgt := 27) hC dX0_flip_23 (by decide) ?_
    refine v_sub (lv' := [(0, rf Λ (5 * i)), (1, .int (nI n)), (2, .int (nI (n / 256)))]) [1, 2, 0] rfl ?_
    exact J27  _  (by rw [c19]; rfl)
theorem in_X0_canHold_X0 : ∀ w ∈ wsX00, w ∈ wsX0_canHold := by decide +kernel
theorem fl_X0_canHold_19 : Cond.fieldLink RX0 19 "BoatSets$Fleet" "sizes" "[I" ∈ wsX0_canHold := by decide +kernel
theorem fl_X0_canHold_22 : Cond.fieldLink RX0 22 "BoatSets$Fleet" "runs" "[I" ∈ wsX0_canHold := by decide +kernel
theorem hd_X0_canHold : yX0_canHold.cls = RX0 ∧ yX0_canHold.cls ≠ "java/lang/invoke/MethodHandle" ∧ yX0_canHold.cls ≠ "java/lang/invoke/VarHandle" ∧ (parseMethodDescriptor yX0_canHold.desc).map (fun d => d.parameters.length) = some 2 := by decide +kernel
set_option maxHeartbeats 400000 in
set_option maxRecDepth 100000 in
theorem c_X0_canHold (Λ : Lk) (X : XS) (Y : YS) {i : Nat} {f : FR} (hi : i < 37) (hf : X.1 i = f) {b : Nat} {k : Int32} (hb : b < 8) : Con Λ yX0_canHold wsX0_canHold { frames := 0, cells := 0, slots := 0, locals := 0 } [rf Λ (5 * i), .int (nI b), .int k] (CC Λ X Y) (some (.int (bI (holdC f b k)))) (CC Λ X Y) := by
  refine con_start (cc := cX0_canHold) (maxL := 3) (ret := (some .boolean)) (by decide) rfl (Nat.le_of_ble_eq_true rfl) ?_
  intro κ hC hR
  have hC : Ok Λ { frames := 0, cells := 0, slots := 0, locals := 0 } cX0_canHold wsX0_canHold RX0 3 κ := hC
  refine v_args (lv' := [(0, rf Λ (5 * i)), (1, .int (nI b)), (2, .int k)]) rfl ?_
  refine v_iload_n hC dX0_canHold_0 2 rfl ?_
  by_cases c1_0 : k = 0
  · refine v_topi c1_0 ?_
    refine v_look (x := 0) (tgt := 28) (off := 27) hC dX0_canHold_1 (by decide) (by decide) (by decide) ?_
    refine v_aload_n hC dX0_canHold_28 0 rfl ?_
    refine v_get (T := TX0) (N := 7) (v := rf Λ (5 * i + 3)) hC (5 * i) (rb_f0 hi) (cc_f0 Λ Y hi hf) in_X0_canHold_X0 rfl 2 (by decide) fl_X0_canHold_19 rfl dX0_canHold_29 ?_
    refine v_iload_n hC dX0_canHold_32 1 rfl ?_
    refine v_iald (n := 8) (f := (fs f)) hC (5 * i + 3) (rb_f hi (by decide)) (cc_f3 Λ Y hi hf) b rfl (by omega) (by decide) dX0_canHold_33 ?_
    refine v_bipush (v := 24) hC dX0_canHold_34 (by decide) ?_
    refine v_icmp_gt (x := (fs f) b) (y := 24) (tgt := 43) hC dX0_canHold_36 (by decide) (fun c36 => ?_) (fun c36 => ?_)
    · have c36' := Int32.not_le.mpr c36
      refine v_iconst (v := 0) hC dX0_canHold_43 (by decide) ?_
      exact v_zret hC hR (congrArg (fun z : Int32 => some (Value.int z)) (by simp [bI, holdC, c1_0, c36, c36'])) rfl rfl dX0_canHold_44
    · have c36' := Int32.not_lt.mp c36
      refine v_iconst (v := 1) hC dX0_canHold_39 (by decide) ?_
      refine v_goto (tgt := 44) hC dX0_canHold_40 (by decide) ?_
      exact v_zret hC hR (congrArg (fun z : Int32 => some (Value.int z)) (by simp [bI, holdC, c1_0, c36, c36'])) rfl rfl dX0_canHold_44
  by_cases c1_2 : k = 2
  · refine v_topi c1_2 ?_
    refine v_look (x := 2) (tgt := 45) (off := 44) hC dX0_canHold_1 (by decide) (by decide) (by decide) ?_
    refine v_aload_n hC dX0_canHold_45 0 rfl ?_
    refine v_get (T := TX0) (N := 7) (v := rf Λ (5 * i + 4)) hC (5 * i) (rb_f0 hi) (cc_f0 Λ Y hi hf) in_X0_canHold_X0 rfl 3 (by decide) fl_X0_canHold_22 rfl dX0_canHold_46 ?_
    refine v_iload_n hC dX0_canHold_49 1 rfl ?_
    refine v_iald (n := 8) (f := (fr f)) hC (5 * i + 4) (rb_f hi (by decide)) (cc_f4 Λ Y hi hf) b rfl (by omega) (by decide) dX0_canHold_50 ?_
    refine v_bipush (v := 8) hC dX0_canHold_51 (by decide) ?_
    refine v_icmp_gt (x := (fr f) b) (y := 8) (tgt := 60) hC dX0_canHold_53 (by decide) (fun c53 => ?_) (fun c53 => ?_)
    · have c53' := Int32.not_le.mpr c53
      refine v_iconst (v := 0) hC dX0_canHold_60 (by decide) ?_
      exact v_zret hC hR (congrArg (fun z : Int32 => some (Value.int z)) (by simp [bI, holdC, c1_2, c53, c53'])) rfl rfl dX0_canHold_61
    · have c53' := Int32.not_lt.mp c53
      refine v_iconst (v := 1) hC dX0_canHold_56 (by decide) ?_
      refine v_goto (tgt := 61) hC dX0_canHold_57 (by decide) ?_
      exact v_zret hC hR (congrArg (fun z : Int32 => some (Value.int z)) (by simp [bI, holdC, c1_2, c53, c53'])) rfl rfl dX0_canHold_61
  refine v_look (tgt := 62) (off := 61) hC dX0_canHold_1 (by decide) ((lv_osw c1_0 (by decide)).trans (lv_osw c1_2 (by decide))) (by decide) ?_
  refine v_iconst (v := 1) hC dX0_canHold_62 (by decide) ?_
  exact v_zret hC hR (congrArg (fun z : Int32 => some (Value.int z)) (by simp [bI, holdC, c1_0, c1_2])) rfl rfl dX0_canHold_63
theorem in_X0_unitsAs_X0 : ∀ w ∈ wsX00, w ∈ wsX0_unitsAs := by decide +kernel
theorem fl_X0_unitsAs_19 : Cond.fieldLink RX0 19 "BoatSets$Fleet" "sizes" "[I" ∈ wsX0_unitsAs := by decide +kernel
theorem fl_X0_unitsAs_22 : Cond.fieldLink RX0 22 "BoatSets$Fleet" "runs" "[I" ∈ wsX0_unitsAs := by decide +kernel
theorem hd_X0_unitsAs : yX0_unitsAs.cls = RX0 ∧ yX0_unitsAs.cls ≠ "java/lang/invoke/MethodHandle" ∧ yX0_unitsAs.cls ≠ "java/lang/invoke/VarHandle" ∧ (parseMethodDescriptor yX0_unitsAs.desc).map (fun d => d.parameters.length) = some 2 := by decide +kernel
set_option maxHeartbeats 400000 in
set_option maxRecDepth 100000 in
theorem c_X0_unitsAs (Λ : Lk) (X : XS) (Y : YS) {i : Nat} {f : FR} (hi : i < 37) (hf : X.1 i = f) {b : Nat} {k : Int32} (hb : b < 8) : Con Λ yX0_unitsAs wsX0_unitsAs { frames := 0, cells := 0, slots := 0, locals := 0 } [rf Λ (5 * i), .int (nI b), .int k] (CC Λ X Y) (some (.int (unitsC f b k))) (CC Λ X Y) := by
  refine con_start (cc := cX0_unitsAs) (maxL := 3) (ret := (some .int)) (by decide) rfl (Nat.le_of_ble_eq_true rfl) ?_
  intro κ hC hR
  have hC : Ok Λ { frames := 0, cells := 0, slots := 0, locals := 0 } cX0_unitsAs wsX0_unitsAs RX0 3 κ := hC
  refine v_args (lv' := [(0, rf Λ (5 * i)), (1, .int (nI b)), (2, .int k)]) rfl ?_
  refine v_iload_n hC dX0_unitsAs_0 2 rfl ?_
  by_cases c1_0 : k = 0
  · refine v_topi c1_0 ?_
    refine v_look (x := 0) (tgt := 28) (off := 27) hC dX0_unitsAs_1 (by decide) (by decide) (by decide) ?_
    refine v_iconst (v := 2) hC dX0_unitsAs_28 (by decide) ?_
    refine v_aload_n hC dX0_unitsAs_29 0 rfl ?_
    refine v_get (T := TX0) (N := 7) (v := rf Λ (5 * i + 3)) hC (5 * i) (rb_f0 hi) (cc_f0 Λ Y hi hf) in_X0_unitsAs_X0 rfl 2 (by decide) fl_X0_unitsAs_19 rfl dX0_unitsAs_30 ?_
    refine v_iload_n hC dX0_unitsAs_33 1 rfl ?_
    refine v_iald (n := 8) (f := (fs f)) hC (5 * i + 3) (rb_f hi (by decide)) (cc_f3 Λ Y hi hf) b rfl (by omega) (by decide) dX0_unitsAs_34 ?_
    refine v_imul (x := 2) (y := (fs f) b) hC dX0_unitsAs_35 ?_
    exact v_iret hC hR (congrArg (fun z : Int32 => some (Value.int z)) (by simp [unitsC, c1_0])) rfl dX0_unitsAs_36
  by_cases c1_2 : k = 2
  · refine v_topi c1_2 ?_
    refine v_look (x := 2) (tgt := 37) (off := 36) hC dX0_unitsAs_1 (by decide) (by decide) (by decide) ?_
    refine v_iconst (v := 3) hC dX0_unitsAs_37 (by decide) ?_
    refine v_aload_n hC dX0_unitsAs_38 0 rfl ?_
    refine v_get (T := TX0) (N := 7) (v := rf Λ (5 * i + 4)) hC (5 * i) (rb_f0 hi) (cc_f0 Λ Y hi hf) in_X0_unitsAs_X0 rfl 3 (by decide) fl_X0_unitsAs_22 rfl dX0_unitsAs_39 ?_
    refine v_iload_n hC dX0_unitsAs_42 1 rfl ?_
    refine v_iald (n := 8) (f := (fr f)) hC (5 * i + 4) (rb_f hi (by decide)) (cc_f4 Λ Y hi hf) b rfl (by omega) (by decide) dX0_unitsAs_43 ?_
    refine v_imul (x := 3) (y := (fr f) b) hC dX0_unitsAs_44 ?_
    exact v_iret hC hR (congrArg (fun z : Int32 => some (Value.int z)) (by simp [unitsC, c1_2])) rfl dX0_unitsAs_45
  refine v_look (tgt := 46) (off := 45) hC dX0_unitsAs_1 (by decide) ((lv_osw c1_0 (by decide)).trans (lv_osw c1_2 (by decide))) (by decide) ?_
  refine v_bipush (v := 32) hC dX0_unitsAs_46 (by decide) ?_
  exact v_iret hC hR (congrArg (fun z : Int32 => some (Value.int z)) (by simp [unitsC, c1_0, c1_2])) rfl dX0_unitsAs_48
theorem hd_X0_bestKind : yX0_bestKind.cls = RX0 ∧ yX0_bestKind.cls ≠ "java/lang/invoke/MethodHandle" ∧ yX0_bestKind.cls ≠ "java/lang/invoke/VarHandle" ∧ (parseMethodDescriptor yX0_bestKind.desc).map (fun d => d.parameters.length) = some 1 := by decide +kernel
set_option maxHeartbeats 400000 in
set_option maxRecDepth 100000 in
theorem c_X0_bestKind (Λ : Lk) (X : XS) (Y : YS) {i : Nat} {f : FR} (hi : i < 37) (hf : X.1 i = f) {b : Nat} (hb : b < 8) : Con Λ yX0_bestKind wsX0_bestKind { frames := 1, cells := 0, slots := 0, locals := 22 } [rf Λ (5 * i), .int (nI b)] (CC Λ X Y) (some (.int (bestC f b))) (CC Λ X Y) := by
  refine con_start (cc := cX0_bestKind) (maxL := 3) (ret := (some .int)) (by decide) rfl (Nat.le_of_ble_eq_true rfl) ?_
  intro κ hC hR
  have hC : Ok Λ { frames := 1, cells := 0, slots := 0, locals := 22 } cX0_bestKind wsX0_bestKind RX0 3 κ := hC
  refine v_args (lv' := [(0, rf Λ (5 * i)), (1, .int (nI b))]) rfl ?_
  refine v_iconst (v := 1) hC dX0_bestKind_0 (by decide) ?_
  refine v_istore_n (lv' := [(2, .int 1), (0, rf Λ (5 * i)), (1, .int (nI b))]) hC dX0_bestKind_1 (by decide) rfl ?_
  refine v_aload_n hC dX0_bestKind_2 1 rfl ?_
  refine v_iload_n hC dX0_bestKind_3 2 rfl ?_
  refine v_iconst (v := 0) hC dX0_bestKind_4 (by decide) ?_
  refine v_callVr (v := .int (bI (holdC f b 0))) (C2 := CC Λ X Y) (As := [.int (nI b), .int 0]) (rest := []) hC 2 (5 * i) (c_X0_canHold Λ X Y (i := i) (f := f) hi hf (b := b) (k := 0) (by omega)) (rb_f0 hi) (cc_f0 Λ Y hi hf) rfl gX0_bestKind_X0_canHold rfl rfl rfl hd_X0_canHold ⟨by decide, by decide⟩ rfl rfl (Nat.le_of_ble_eq_true rfl) dX0_bestKind_5 ?_
  refine v_beq (b := holdC f b 0) (tgt := 28) hC dX0_bestKind_8 (by decide) (fun c8 => ?_) (fun c8 => ?_)
  · skip
    refine v_aload_n hC dX0_bestKind_28 1 rfl ?_
    refine v_iload_n hC dX0_bestKind_29 2 rfl ?_
    refine v_iconst (v := 2) hC dX0_bestKind_30 (by decide) ?_
    refine v_callVr (v := .int (bI (holdC f b 2))) (C2 := CC Λ X Y) (As := [.int (nI b), .int 2]) (rest := []) hC 2 (5 * i) (c_X0_canHold Λ X Y (i := i) (f := f) hi hf (b := b) (k := 2) (by omega)) (rb_f0 hi) (cc_f0 Λ Y hi hf) rfl gX0_bestKind_X0_canHold rfl rfl rfl hd_X0_canHold ⟨by decide, by decide⟩ rfl rfl (Nat.le_of_ble_eq_true rfl) dX0_bestKind_31 ?_
    refine v_beq (b := holdC f b 2) (tgt := 54) hC dX0_bestKind_34 (by decide) (fun c34 => ?_) (fun c34 => ?_)
    · skip
      refine v_iload_n hC dX0_bestKind_54 0 rfl ?_
      exact v_iret hC hR (congrArg (fun z : Int32 => some (Value.int z)) (by simp [bestC, c8, c34])) rfl dX0_bestKind_55
    · skip
      refine v_aload_n hC dX0_bestKind_37 1 rfl ?_
      refine v_iload_n hC dX0_bestKind_38 2 rfl ?_
      refine v_iconst (v := 2) hC dX0_bestKind_39 (by decide) ?_
      refine v_callVr (v := .int (unitsC f b 2)) (C2 := CC Λ X Y) (As := [.int (nI b), .int 2]) (rest := []) hC 2 (5 * i) (c_X0_unitsAs Λ X Y (i := i) (f := f) hi hf (b := b) (k := 2) (by omega)) (rb_f0 hi) (cc_f0 Λ Y hi hf) rfl gX0_bestKind_X0_unitsAs rfl rfl rfl hd_X0_unitsAs ⟨by decide, by decide⟩ rfl rfl (Nat.le_of_ble_eq_true rfl) dX0_bestKind_40 ?_
      refine v_aload_n hC dX0_bestKind_43 1 rfl ?_
      refine v_iload_n hC dX0_bestKind_44 2 rfl ?_
      refine v_iload_n hC dX0_bestKind_45 0 rfl ?_
      refine v_callVr (v := .int (unitsC f b 1)) (C2 := CC Λ X Y) (As := [.int (nI b), .int 1]) (rest := [.int (unitsC f b 2)]) hC 2 (5 * i) (c_X0_unitsAs Λ X Y (i := i) (f := f) hi hf (b := b) (k := 1) (by omega)) (rb_f0 hi) (cc_f0 Λ Y hi hf) rfl gX0_bestKind_X0_unitsAs rfl rfl rfl hd_X0_unitsAs ⟨by decide, by decide⟩ rfl rfl (Nat.le_of_ble_eq_true rfl) dX0_bestKind_46 ?_
      refine v_icmp_ge (x := unitsC f b 2) (y := unitsC f b 1) (tgt := 54) hC dX0_bestKind_49 (by decide) (fun c49 => ?_) (fun c49 => ?_)
      · have c49' := Int32.not_lt.mpr c49
        refine v_iload_n hC dX0_bestKind_54 0 rfl ?_
        exact v_iret hC hR (congrArg (fun z : Int32 => some (Value.int z)) (by simp [bestC, c8, c34, c49, c49'])) rfl dX0_bestKind_55
      · have c49' := Int32.not_le.mp c49
        refine v_iconst (v := 2) hC dX0_bestKind_52 (by decide) ?_
        refine v_istore_n (lv' := [(2, .int 2), (0, rf Λ (5 * i)), (1, .int (nI b))]) hC dX0_bestKind_53 (by decide) rfl ?_
        refine v_iload_n hC dX0_bestKind_54 0 rfl ?_
        exact v_iret hC hR (congrArg (fun z : Int32 => some (Value.int z)) (by simp [bestC, c8, c34, c49, c49'])) rfl dX0_bestKind_55
  · skip
    refine v_aload_n hC dX0_bestKind_11 1 rfl ?_
    refine v_iload_n hC dX0_bestKind_12 2 rfl ?_
    refine v_iconst (v := 0) hC dX0_bestKind_13 (by decide) ?_
    refine v_callVr (v := .int (unitsC f b 0)) (C2 := CC Λ X Y) (As := [.int (nI b), .int 0]) (rest := []) hC 2 (5 * i) (c_X0_unitsAs Λ X Y (i := i) (f := f) hi hf (b := b) (k := 0) (by omega)) (rb_f0 hi) (cc_f0 Λ Y hi hf) rfl gX0_bestKind_X0_unitsAs rfl rfl rfl hd_X0_unitsAs ⟨by decide, by decide⟩ rfl rfl (Nat.le_of_ble_eq_true rfl) dX0_bestKind_14 ?_
    refine v_aload_n hC dX0_bestKind_17 1 rfl ?_
    refine v_iload_n hC dX0_bestKind_18 2 rfl ?_
    refine v_iconst (v := 1) hC dX0_bestKind_19 (by decide) ?_
    refine v_callVr (v := .int (unitsC f b 1)) (C2 := CC Λ X Y) (As := [.int (nI b), .int 1]) (rest := [.int (unitsC f b 0)]) hC 2 (5 * i) (c_X0_unitsAs Λ X Y (i := i) (f := f) hi hf (b := b) (k := 1) (by omega)) (rb_f0 hi) (cc_f0 Λ Y hi hf) rfl gX0_bestKind_X0_unitsAs rfl rfl rfl hd_X0_unitsAs ⟨by decide, by decide⟩ rfl rfl (Nat.le_of_ble_eq_true rfl) dX0_bestKind_20 ?_
    refine v_icmp_gt (x := unitsC f b 0) (y := unitsC f b 1) (tgt := 28) hC dX0_bestKind_23 (by decide) (fun c23 => ?_) (fun c23 => ?_)
    · have c23' := Int32.not_le.mpr c23
      refine v_aload_n hC dX0_bestKind_28 1 rfl ?_
      refine v_iload_n hC dX0_bestKind_29 2 rfl ?_
      refine v_iconst (v := 2) hC dX0_bestKind_30 (by decide) ?_
      refine v_callVr (v := .int (bI (holdC f b 2))) (C2 := CC Λ X Y) (As := [.int (nI b), .int 2]) (rest := []) hC 2 (5 * i) (c_X0_canHold Λ X Y (i := i) (f := f) hi hf (b := b) (k := 2) (by omega)) (rb_f0 hi) (cc_f0 Λ Y hi hf) rfl gX0_bestKind_X0_canHold rfl rfl rfl hd_X0_canHold ⟨by decide, by decide⟩ rfl rfl (Nat.le_of_ble_eq_true rfl) dX0_bestKind_31 ?_
      refine v_beq (b := holdC f b 2) (tgt := 54) hC dX0_bestKind_34 (by decide) (fun c34 => ?_) (fun c34 => ?_)
      · skip
        refine v_iload_n hC dX0_bestKind_54 0 rfl ?_
        exact v_iret hC hR (congrArg (fun z : Int32 => some (Value.int z)) (by simp [bestC, c8, c23, c23', c34])) rfl dX0_bestKind_55
      · skip
        refine v_aload_n hC dX0_bestKind_37 1 rfl ?_
        refine v_iload_n hC dX0_bestKind_38 2 rfl ?_
        refine v_iconst (v := 2) hC dX0_bestKind_39 (by decide) ?_
        refine v_callVr (v := .int (unitsC f b 2)) (C2 := CC Λ X Y) (As := [.int (nI b), .int 2]) (rest := []) hC 2 (5 * i) (c_X0_unitsAs Λ X Y (i := i) (f := f) hi hf (b := b) (k := 2) (by omega)) (rb_f0 hi) (cc_f0 Λ Y hi hf) rfl gX0_bestKind_X0_unitsAs rfl rfl rfl hd_X0_unitsAs ⟨by decide, by decide⟩ rfl rfl (Nat.le_of_ble_eq_true rfl) dX0_bestKind_40 ?_
        refine v_aload_n hC dX0_bestKind_43 1 rfl ?_
        refine v_iload_n hC dX0_bestKind_44 2 rfl ?_
        refine v_iload_n hC dX0_bestKind_45 0 rfl ?_
        refine v_callVr (v := .int (unitsC f b 1)) (C2 := CC Λ X Y) (As := [.int (nI b), .int 1]) (rest := [.int (unitsC f b 2)]) hC 2 (5 * i) (c_X0_unitsAs Λ X Y (i := i) (f := f) hi hf (b := b) (k := 1) (by omega)) (rb_f0 hi) (cc_f0 Λ Y hi hf) rfl gX0_bestKind_X0_unitsAs rfl rfl rfl hd_X0_unitsAs ⟨by decide, by decide⟩ rfl rfl (Nat.le_of_ble_eq_true rfl) dX0_bestKind_46 ?_
        refine v_icmp_ge (x := unitsC f b 2) (y := unitsC f b 1) (tgt := 54) hC dX0_bestKind_49 (by decide) (fun c49 => ?_) (fun c49 => ?_)
        · have c49' := Int32.not_lt.mpr c49
          refine v_iload_n hC dX0_bestKind_54 0 rfl ?_
          exact v_iret hC hR (congrArg (fun z : Int32 => some (Value.int z)) (by simp [bestC, c8, c23, c23', c34, c49, c49'])) rfl dX0_bestKind_55
        · have c49' := Int32.not_le.mp c49
          refine v_iconst (v := 2) hC dX0_bestKind_52 (by decide) ?_
          refine v_istore_n (lv' := [(2, .int 2), (0, rf Λ (5 * i)), (1, .int (nI b))]) hC dX0_bestKind_53 (by decide) rfl ?_
          refine v_iload_n hC dX0_bestKind_54 0 rfl ?_
          exact v_iret hC hR (congrArg (fun z : Int32 => some (Value.int z)) (by simp [bestC, c8, c23, c23', c34, c49, c49'])) rfl dX0_bestKind_55
    · have c23' := Int32.not_lt.mp c23
      refine v_iconst (v := 0) hC dX0_bestKind_26 (by decide) ?_
      refine v_istore_n (lv' := [(2, .int 0), (0, rf Λ (5 * i)), (1, .int (nI b))]) hC dX0_bestKind_27 (by decide) rfl ?_
      refine v_aload_n hC dX0_bestKind_28 1 rfl ?_
      refine v_iload_n hC dX0_bestKind_29 2 rfl ?_
      refine v_iconst (v := 2) hC dX0_bestKind_30 (by decide) ?_
      refine v_callVr (v := .int (bI (holdC f b 2))) (C2 := CC Λ X Y) (As := [.int (nI b), .int 2]) (rest := []) hC 2 (5 * i) (c_X0_canHold Λ X Y (i := i) (f := f) hi hf (b := b) (k := 2) (by omega)) (rb_f0 hi) (cc_f0 Λ Y hi hf) rfl gX0_bestKind_X0_canHold rfl rfl rfl hd_X0_canHold ⟨by decide, by decide⟩ rfl rfl (Nat.le_of_ble_eq_true rfl) dX0_bestKind_31 ?_
      refine v_beq (b := holdC f b 2) (tgt := 54) hC dX0_bestKind_34 (by decide) (fun c34 => ?_) (fun c34 => ?_)
      · skip
        refine v_iload_n hC dX0_bestKind_54 0 rfl ?_
        exact v_iret hC hR (congrArg (fun z : Int32 => some (Value.int z)) (by simp [bestC, c8, c23, c23', c34])) rfl dX0_bestKind_55
      · skip
        refine v_aload_n hC dX0_bestKind_37 1 rfl ?_
        refine v_iload_n hC dX0_bestKind_38 2 rfl ?_
        refine v_iconst (v := 2) hC dX0_bestKind_39 (by decide) ?_
        refine v_callVr (v := .int (unitsC f b 2)) (C2 := CC Λ X Y) (As := [.int (nI b), .int 2]) (rest := []) hC 2 (5 * i) (c_X0_unitsAs Λ X Y (i := i) (f := f) hi hf (b := b) (k := 2) (by omega)) (rb_f0 hi) (cc_f0 Λ Y hi hf) rfl gX0_bestKind_X0_unitsAs rfl rfl rfl hd_X0_unitsAs ⟨by decide, by decide⟩ rfl rfl (Nat.le_of_ble_eq_true rfl) dX0_bestKind_40 ?_
        refine v_aload_n hC dX0_bestKind_43 1 rfl ?_
        refine v_iload_n hC dX0_bestKind_44 2 rfl ?_
        refine v_iload_n hC dX0_bestKind_45 0 rfl ?_
        refine v_callVr (v := .int (unitsC f b 0)) (C2 := CC Λ X Y) (As := [.int (nI b), .int 0]) (rest := [.int (unitsC f b 2)]) hC 2 (5 * i) (c_X0_unitsAs Λ X Y (i := i) (f := f) hi hf (b := b) (k := 0) (by omega)) (rb_f0 hi) (cc_f0 Λ Y hi hf) rfl gX0_bestKind_X0_unitsAs rfl rfl rfl hd_X0_unitsAs ⟨by decide, by decide⟩ rfl rfl (Nat.le_of_ble_eq_true rfl) dX0_bestKind_46 ?_
        refine v_icmp_ge (x := unitsC f b 2) (y := unitsC f b 0) (tgt := 54) hC dX0_bestKind_49 (by decide) (fun c49 => ?_) (fun c49 => ?_)
        · have c49' := Int32.not_lt.mpr c49
          refine v_iload_n hC dX0_bestKind_54 0 rfl ?_
          exact v_iret hC hR (congrArg (fun z : Int32 => some (Value.int z)) (by simp [bestC, c8, c23, c23', c34, c49, c49'])) rfl dX0_bestKind_55
        · have c49' := Int32.not_le.mp c49
          refine v_iconst (v := 2) hC dX0_bestKind_52 (by decide) ?_
          refine v_istore_n (lv' := [(2, .int 2), (0, rf Λ (5 * i)), (1, .int (nI b))]) hC dX0_bestKind_53 (by decide) rfl ?_
          refine v_iload_n hC dX0_bestKind_54 0 rfl ?_
          exact v_iret hC hR (congrArg (fun z : Int32 => some (Value.int z)) (by simp [bestC, c8, c23, c23', c34, c49, c49'])) rfl dX0_bestKind_55
theorem in_X0_becomeBest_X0 : ∀ w ∈ wsX00, w ∈ wsX0_becomeBest := by decide +kernel
theorem fl_X0_becomeBest_15 : Cond.fieldLink RX0 15 "BoatSets$Fleet" "kinds" "[I" ∈ wsX0_becomeBest := by decide +kernel
theorem fl_X0_becomeBest_28 : Cond.fieldLink RX0 28 "BoatSets$Fleet" "purse" "I" ∈ wsX0_becomeBest := by decide +kernel
theorem fl_X0_becomeBest_32 : Cond.fieldLink RX0 32 "BoatSets$Fleet" "paid" "I" ∈ wsX0_becomeBest := by decide +kernel
theorem hd_X0_becomeBest : yX0_becomeBest.cls = RX0 ∧ yX0_becomeBest.cls ≠ "java/lang/invoke/MethodHandle" ∧ yX0_becomeBest.cls ≠ "java/lang/invoke/VarHandle" ∧ (parseMethodDescriptor yX0_becomeBest.desc).map (fun d => d.parameters.length) = some 1 := by decide +kernel
set_option maxHeartbeats 400000 in
set_option maxRecDepth 100000 in
theorem c_X0_becomeBest (Λ : Lk) (X : XS) (Y : YS) {i : Nat} {f : FR} (hi : i < 37) (hf : X.1 i = f) {b : Nat} (hb : b < 8) : Con Λ yX0_becomeBest wsX0_becomeBest { frames := 2, cells := 0, slots := 0, locals := 44 } [rf Λ (5 * i), .int (nI b)] (CC Λ X Y) (some (.int ((bbF f b).2))) (CC Λ (xFi X i (bbF f b).1) Y) := by
  refine con_start (cc := cX0_becomeBest) (maxL := 4) (ret := (some .int)) (by decide) rfl (Nat.le_of_ble_eq_true rfl) ?_
  intro κ hC hR
  have hC : Ok Λ { frames := 2, cells := 0, slots := 0, locals := 44 } cX0_becomeBest wsX0_becomeBest RX0 4 κ := hC
  refine v_args (lv' := [(0, rf Λ (5 * i)), (1, .int (nI b))]) rfl ?_
  refine v_mem (congrArg (fun Z => CC Λ Z Y) (xFi_self hf)) ?_
  refine v_aload_n hC dX0_becomeBest_0 0 rfl ?_
  refine v_iload_n hC dX0_becomeBest_1 1 rfl ?_
  refine v_callVr (v := .int (bestC f b)) (C2 := CC Λ (xFi X i f) Y) (As := [.int (nI b)]) (rest := []) hC 1 (5 * i) (c_X0_bestKind Λ (xFi X i f) Y (i := i) (f := f) hi (xFi_at X i f) (b := b) (by omega)) (rb_f0 hi) (cc_f0 Λ Y hi (xFi_at X i f)) rfl gX0_becomeBest_X0_bestKind rfl rfl rfl hd_X0_bestKind ⟨by decide, by decide⟩ rfl rfl (Nat.le_of_ble_eq_true rfl) dX0_becomeBest_2 ?_
  refine v_istore_n (lv' := [(2, .int (bestC f b)), (0, rf Λ (5 * i)), (1, .int (nI b))]) hC dX0_becomeBest_5 (by decide) rfl ?_
  refine v_aload_n hC dX0_becomeBest_6 1 rfl ?_
  refine v_iload_n hC dX0_becomeBest_7 2 rfl ?_
  refine v_iload_n hC dX0_becomeBest_8 0 rfl ?_
  refine v_callVr (v := .int (unitsC f b (bestC f b))) (C2 := CC Λ (xFi X i f) Y) (As := [.int (nI b), .int (bestC f b)]) (rest := []) hC 2 (5 * i) (c_X0_unitsAs Λ (xFi X i f) Y (i := i) (f := f) hi (xFi_at X i f) (b := b) (k := bestC f b) (by omega)) (rb_f0 hi) (cc_f0 Λ Y hi (xFi_at X i f)) rfl gX0_becomeBest_X0_unitsAs rfl rfl rfl hd_X0_unitsAs ⟨by decide, by decide⟩ rfl rfl (Nat.le_of_ble_eq_true rfl) dX0_becomeBest_9 ?_
  refine v_istore_n (lv' := [(3, .int (unitsC f b (bestC f b))), (2, .int (bestC f b)), (0, rf Λ (5 * i)), (1, .int (nI b))]) hC dX0_becomeBest_12 (by decide) rfl ?_
  refine v_iload_n hC dX0_becomeBest_13 1 rfl ?_
  refine v_aload_n hC dX0_becomeBest_14 2 rfl ?_
  refine v_get (T := TX0) (N := 7) (v := rf Λ (5 * i + 2)) hC (5 * i) (rb_f0 hi) (cc_f0 Λ Y hi (xFi_at X i f)) in_X0_becomeBest_X0 rfl 1 (by decide) fl_X0_becomeBest_15 rfl dX0_becomeBest_15 ?_
  refine v_iload_n hC dX0_becomeBest_18 3 rfl ?_
  refine v_iald (n := 8) (f := (fk f)) hC (5 * i + 2) (rb_f hi (by decide)) (cc_f2 Λ Y hi (xFi_at X i f)) b rfl (by omega) (by decide) dX0_becomeBest_19 ?_
  refine v_icmp_eq (x := bestC f b) (y := (fk f) b) (tgt := 31) hC dX0_becomeBest_20 (by decide) (fun c20 => ?_) (fun c20 => ?_)
  · skip
    refine v_iconst (v := 0) hC dX0_becomeBest_31 (by decide) ?_
    have e : bbF f b = (f, 0) := by simp [bbF, c20]
    exact v_iretB hC hR e dX0_becomeBest_32
  · skip
    refine v_iload_n hC dX0_becomeBest_23 0 rfl ?_
    refine v_aload_n hC dX0_becomeBest_24 2 rfl ?_
    refine v_get (T := TX0) (N := 7) (v := .int (fp f)) hC (5 * i) (rb_f0 hi) (cc_f0 Λ Y hi (xFi_at X i f)) in_X0_becomeBest_X0 rfl 4 (by decide) fl_X0_becomeBest_28 rfl dX0_becomeBest_25 ?_
    refine v_icmp_le (x := unitsC f b (bestC f b)) (y := (fp f)) (tgt := 33) hC dX0_becomeBest_28 (by decide) (fun c28 => ?_) (fun c28 => ?_)
    · have c28' := Int32.not_lt.mpr c28
      refine v_aload_n hC dX0_becomeBest_33 2 rfl ?_
      refine v_dup hC dX0_becomeBest_34 rfl ?_
      refine v_get (T := TX0) (N := 7) (v := .int (fp f)) hC (5 * i) (rb_f0 hi) (cc_f0 Λ Y hi (xFi_at X i f)) in_X0_becomeBest_X0 rfl 4 (by decide) fl_X0_becomeBest_28 rfl dX0_becomeBest_35 ?_
      refine v_iload_n hC dX0_becomeBest_38 0 rfl ?_
      refine v_isub (x := (fp f)) (y := unitsC f b (bestC f b)) hC dX0_becomeBest_39 ?_
      refine v_put (T := TX0) (N := 7) (v := .int ((fp f) - (unitsC f b (bestC f b)))) (ty := .int) hC (5 * i) (rb_f0 hi) (cc_f0 Λ Y hi (xFi_at X i f)) in_X0_becomeBest_X0 tyX0 tyX0_ok nmX0 rfl 4 (by decide) fl_X0_becomeBest_28 rfl (by decide +kernel) rfl rfl (Nat.le_of_ble_eq_true rfl) dX0_becomeBest_40 ?_
      refine v_mem (cs_fp Λ X Y f ((fp f) - (unitsC f b (bestC f b))) hi) ?_
      refine v_aload_n hC dX0_becomeBest_43 2 rfl ?_
      refine v_dup hC dX0_becomeBest_44 rfl ?_
      refine v_get (T := TX0) (N := 7) (v := .int (fd (fpS f ((fp f) - (unitsC f b (bestC f b)))))) hC (5 * i) (rb_f0 hi) (cc_f0 Λ Y hi (xFi_at X i (fpS f ((fp f) - (unitsC f b (bestC f b)))))) in_X0_becomeBest_X0 rfl 5 (by decide) fl_X0_becomeBest_32 rfl dX0_becomeBest_45 ?_
      refine v_iload_n hC dX0_becomeBest_48 0 rfl ?_
      refine v_iadd (x := (fd (fpS f ((fp f) - (unitsC f b (bestC f b)))))) (y := unitsC f b (bestC f b)) hC dX0_becomeBest_49 ?_
      refine v_put (T := TX0) (N := 7) (v := .int ((fd (fpS f ((fp f) - (unitsC f b (bestC f b))))) + (unitsC f b (bestC f b)))) (ty := .int) hC (5 * i) (rb_f0 hi) (cc_f0 Λ Y hi (xFi_at X i (fpS f ((fp f) - (unitsC f b (bestC f b)))))) in_X0_becomeBest_X0 tyX0 tyX0_ok nmX0 rfl 5 (by decide) fl_X0_becomeBest_32 rfl (by decide +kernel) rfl rfl (Nat.le_of_ble_eq_true rfl) dX0_becomeBest_50 ?_
      refine v_mem (cs_fd Λ X Y (fpS f ((fp f) - (unitsC f b (bestC f b)))) ((fd (fpS f ((fp f) - (unitsC f b (bestC f b))))) + (unitsC f b (bestC f b))) hi) ?_
      refine v_aload_n hC dX0_becomeBest_53 2 rfl ?_
      refine v_get (T := TX0) (N := 7) (v := rf Λ (5 * i + 2)) hC (5 * i) (rb_f0 hi) (cc_f0 Λ Y hi (xFi_at X i (fdS (fpS f ((fp f) - (unitsC f b (bestC f b)))) ((fd (fpS f ((fp f) - (unitsC f b (bestC f b))))) + (unitsC f b (bestC f b)))))) in_X0_becomeBest_X0 rfl 1 (by decide) fl_X0_becomeBest_15 rfl dX0_becomeBest_54 ?_
      refine v_iload_n hC dX0_becomeBest_57 3 rfl ?_
      refine v_iload_n hC dX0_becomeBest_58 1 rfl ?_
      refine v_iast (n := 8) (f := (fk (fdS (fpS f ((fp f) - (unitsC f b (bestC f b)))) ((fd (fpS f ((fp f) - (unitsC f b (bestC f b))))) + (unitsC f b (bestC f b)))))) hC (5 * i + 2) (rb_f hi (by decide)) (cc_f2 Λ Y hi (xFi_at X i (fdS (fpS f ((fp f) - (unitsC f b (bestC f b)))) ((fd (fpS f ((fp f) - (unitsC f b (bestC f b))))) + (unitsC f b (bestC f b)))))) b rfl (by omega) (by decide) dX0_becomeBest_59 ?_
      refine v_mem (cs_fk Λ X Y (fdS (fpS f ((fp f) - (unitsC f b (bestC f b)))) ((fd (fpS f ((fp f) - (unitsC f b (bestC f b))))) + (unitsC f b (bestC f b)))) (upd (fk (fdS (fpS f ((fp f) - (unitsC f b (bestC f b)))) ((fd (fpS f ((fp f) - (unitsC f b (bestC f b))))) + (unitsC f b (bestC f b))))) b (bestC f b)) hi) ?_
      refine v_iload_n hC dX0_becomeBest_60 0 rfl ?_
      have e : bbF f b = ((fkS (fdS (fpS f ((fp f) - (unitsC f b (bestC f b)))) ((fd (fpS f ((fp f) - (unitsC f b (bestC f b))))) + (unitsC f b (bestC f b)))) (upd (fk (fdS (fpS f ((fp f) - (unitsC f b (bestC f b)))) ((fd (fpS f ((fp f) - (unitsC f b (bestC f b))))) + (unitsC f b (bestC f b))))) b (bestC f b))), unitsC f b (bestC f b)) := by simp [bbF, c20, c28, c28']
      exact v_iretB hC hR e dX0_becomeBest_61
    · have c28' := Int32.not_le.mp c28
      refine v_iconst (v := 0) hC dX0_becomeBest_31 (by decide) ?_
      have e : bbF f b = (f, 0) := by simp [bbF, c20, c28, c28']
      exact v_iretB hC hR e dX0_becomeBest_32
theorem in_X0_adaptBoat_X0 : ∀ w ∈ wsX00, w ∈ wsX0_adaptBoat := by decide +kernel
theorem fl_X0_adaptBoat_19 : Cond.fieldLink RX0 19 "BoatSets$Fleet" "sizes" "[I" ∈ wsX0_adaptBoat := by decide +kernel
theorem fl_X0_adaptBoat_35 : Cond.fieldLink RX0 35 "BoatSets$Fleet" "atSea" "Z" ∈ wsX0_adaptBoat := by decide +kernel
theorem fl_X0_adaptBoat_15 : Cond.fieldLink RX0 15 "BoatSets$Fleet" "kinds" "[I" ∈ wsX0_adaptBoat := by decide +kernel
theorem hd_X0_adaptBoat : yX0_adaptBoat.cls = RX0 ∧ yX0_adaptBoat.cls ≠ "java/lang/invoke/MethodHandle" ∧ yX0_adaptBoat.cls ≠ "java/lang/invoke/VarHandle" ∧ (parseMethodDescriptor yX0_adaptBoat.desc).map (fun d => d.parameters.length) = some 1 := by decide +kernel
set_option maxHeartbeats 400000 in
set_option maxRecDepth 100000 in
theorem c_X0_adaptBoat (Λ : Lk) (X : XS) (Y : YS) {i : Nat} {f : FR} (hi : i < 37) (hf : X.1 i = f) {b : Nat} (hb : b < 8) : Con Λ yX0_adaptBoat wsX0_adaptBoat { frames := 3, cells := 0, slots := 0, locals := 67 } [rf Λ (5 * i), .int (nI b)] (CC Λ X Y) (some (.int (bI ((adF f b).2)))) (CC Λ (xFi X i (adF f b).1) Y) := by
  refine con_start (cc := cX0_adaptBoat) (maxL := 2) (ret := (some .boolean)) (by decide) rfl (Nat.le_of_ble_eq_true rfl) ?_
  intro κ hC hR
  have hC : Ok Λ { frames := 3, cells := 0, slots := 0, locals := 67 } cX0_adaptBoat wsX0_adaptBoat RX0 2 κ := hC
  refine v_args (lv' := [(0, rf Λ (5 * i)), (1, .int (nI b))]) rfl ?_
  refine v_mem (congrArg (fun Z => CC Λ Z Y) (xFi_self hf)) ?_
  refine v_aload_n hC dX0_adaptBoat_0 0 rfl ?_
  refine v_get (T := TX0) (N := 7) (v := rf Λ (5 * i + 3)) hC (5 * i) (rb_f0 hi) (cc_f0 Λ Y hi (xFi_at X i f)) in_X0_adaptBoat_X0 rfl 2 (by decide) fl_X0_adaptBoat_19 rfl dX0_adaptBoat_1 ?_
  refine v_iload_n hC dX0_adaptBoat_4 1 rfl ?_
  refine v_iald (n := 8) (f := (fs f)) hC (5 * i + 3) (rb_f hi (by decide)) (cc_f3 Λ Y hi (xFi_at X i f)) b rfl (by omega) (by decide) dX0_adaptBoat_5 ?_
  refine v_if_ne (tgt := 18) hC dX0_adaptBoat_6 (by decide) (fun c6 => ?_) (fun c6 => ?_)
  · skip
    refine v_aload_n hC dX0_adaptBoat_18 0 rfl ?_
    refine v_get (T := TX0) (N := 7) (v := .int (bI (fa f))) hC (5 * i) (rb_f0 hi) (cc_f0 Λ Y hi (xFi_at X i f)) in_X0_adaptBoat_X0 rfl 6 (by decide) fl_X0_adaptBoat_35 rfl dX0_adaptBoat_19 ?_
    refine v_bne (b := (fa f)) (tgt := 31) hC dX0_adaptBoat_22 (by decide) (fun c22 => ?_) (fun c22 => ?_)
    · skip
      refine v_aload_n hC dX0_adaptBoat_31 0 rfl ?_
      refine v_iload_n hC dX0_adaptBoat_32 1 rfl ?_
      refine v_aload_n hC dX0_adaptBoat_33 0 rfl ?_
      refine v_get (T := TX0) (N := 7) (v := rf Λ (5 * i + 2)) hC (5 * i) (rb_f0 hi) (cc_f0 Λ Y hi (xFi_at X i f)) in_X0_adaptBoat_X0 rfl 1 (by decide) fl_X0_adaptBoat_15 rfl dX0_adaptBoat_34 ?_
      refine v_iload_n hC dX0_adaptBoat_37 1 rfl ?_
      refine v_iald (n := 8) (f := (fk f)) hC (5 * i + 2) (rb_f hi (by decide)) (cc_f2 Λ Y hi (xFi_at X i f)) b rfl (by omega) (by decide) dX0_adaptBoat_38 ?_
      refine v_callVr (v := .int (bI (holdC f b ((fk f) b)))) (C2 := CC Λ (xFi X i f) Y) (As := [.int (nI b), .int ((fk f) b)]) (rest := []) hC 2 (5 * i) (c_X0_canHold Λ (xFi X i f) Y (i := i) (f := f) hi (xFi_at X i f) (b := b) (k := (fk f) b) (by omega)) (rb_f0 hi) (cc_f0 Λ Y hi (xFi_at X i f)) rfl gX0_adaptBoat_X0_canHold rfl rfl rfl hd_X0_canHold ⟨by decide, by decide⟩ rfl rfl (Nat.le_of_ble_eq_true rfl) dX0_adaptBoat_39 ?_
      have e : adF f b = (f, holdC f b ((fk f) b)) := by simp [adF, c6, c22]
      exact v_zretB hC hR e rfl dX0_adaptBoat_42
    · skip
      refine v_aload_n hC dX0_adaptBoat_25 0 rfl ?_
      refine v_iload_n hC dX0_adaptBoat_26 1 rfl ?_
      refine v_callVr (v := .int ((bbF f b).2)) (C2 := CC Λ (xFi (xFi X i f) i (bbF f b).1) Y) (As := [.int (nI b)]) (rest := []) hC 1 (5 * i) (c_X0_becomeBest Λ (xFi X i f) Y (i := i) (f := f) hi (xFi_at X i f) (b := b) (by omega)) (rb_f0 hi) (cc_f0 Λ Y hi (xFi_at X i f)) rfl gX0_adaptBoat_X0_becomeBest rfl rfl rfl hd_X0_becomeBest ⟨by decide, by decide⟩ rfl rfl (Nat.le_of_ble_eq_true rfl) dX0_adaptBoat_27 ?_
      refine v_mem (mem_X (xFi_2 X i f (bbF f b).1)) ?_
      refine v_pop hC dX0_adaptBoat_30 rfl ?_
      refine v_aload_n hC dX0_adaptBoat_31 0 rfl ?_
      refine v_iload_n hC dX0_adaptBoat_32 1 rfl ?_
      refine v_aload_n hC dX0_adaptBoat_33 0 rfl ?_
      refine v_get (T := TX0) (N := 7) (v := rf Λ (5 * i + 2)) hC (5 * i) (rb_f0 hi) (cc_f0 Λ Y hi (xFi_at X i (bbF f b).1)) in_X0_adaptBoat_X0 rfl 1 (by decide) fl_X0_adaptBoat_15 rfl dX0_adaptBoat_34 ?_
      refine v_iload_n hC dX0_adaptBoat_37 1 rfl ?_
      refine v_iald (n := 8) (f := (fk ((bbF f b).1))) hC (5 * i + 2) (rb_f hi (by decide)) (cc_f2 Λ Y hi (xFi_at X i (bbF f b).1)) b rfl (by omega) (by decide) dX0_adaptBoat_38 ?_
      refine v_callVr (v := .int (bI (holdC ((bbF f b).1) b ((fk ((bbF f b).1)) b)))) (C2 := CC Λ (xFi X i (bbF f b).1) Y) (As := [.int (nI b), .int ((fk ((bbF f b).1)) b)]) (rest := []) hC 2 (5 * i) (c_X0_canHold Λ (xFi X i (bbF f b).1) Y (i := i) (f := (bbF f b).1) hi (xFi_at X i (bbF f b).1) (b := b) (k := (fk ((bbF f b).1)) b) (by omega)) (rb_f0 hi) (cc_f0 Λ Y hi (xFi_at X i (bbF f b).1)) rfl gX0_adaptBoat_X0_canHold rfl rfl rfl hd_X0_canHold ⟨by decide, by decide⟩ rfl rfl (Nat.le_of_ble_eq_true rfl) dX0_adaptBoat_39 ?_
      have e : adF f b = ((bbF f b).1, holdC ((bbF f b).1) b ((fk ((bbF f b).1)) b)) := by simp [adF, c6, c22]
      exact v_zretB hC hR e rfl dX0_adaptBoat_42
  · skip
    refine v_aload_n hC dX0_adaptBoat_9 0 rfl ?_
    refine v_get (T := TX0) (N := 7) (v := rf Λ (5 * i + 2)) hC (5 * i) (rb_f0 hi) (cc_f0 Λ Y hi (xFi_at X i f)) in_X0_adaptBoat_X0 rfl 1 (by decide) fl_X0_adaptBoat_15 rfl dX0_adaptBoat_10 ?_
    refine v_iload_n hC dX0_adaptBoat_13 1 rfl ?_
    refine v_iconst (v := 0) hC dX0_adaptBoat_14 (by decide) ?_
    refine v_iast (n := 8) (f := (fk f)) hC (5 * i + 2) (rb_f hi (by decide)) (cc_f2 Λ Y hi (xFi_at X i f)) b rfl (by omega) (by decide) dX0_adaptBoat_15 ?_
    refine v_mem (cs_fk Λ X Y f (upd (fk f) b 0) hi) ?_
    refine v_iconst (v := 1) hC dX0_adaptBoat_16 (by decide) ?_
    have e : adF f b = ((fkS f (upd (fk f) b 0)), true) := by simp [adF, c6]
    exact v_zretB hC hR e rfl dX0_adaptBoat_17
