theorem in_X5_of_X5 : ∀ w ∈ wsX50, w ∈ wsX5_of := by decide +kernel
theorem fl_X5_of_7 : Cond.fieldLink RX5 7 "BoatSetsModel" "now" "[I" ∈ wsX5_of := by decide +kernel
theorem hd_X5_of : yX5_of.cls = RX5 ∧ yX5_of.cls ≠ "java/lang/invoke/MethodHandle" ∧ yX5_of.cls ≠ "java/lang/invoke/VarHandle" ∧ (parseMethodDescriptor yX5_of.desc).map (fun d => d.parameters.length) = some 2 := by decide +kernel
set_option maxHeartbeats 400000 in
set_option maxRecDepth 100000 in
theorem c_X5_of (Λ : Lk) (X : XS) (Y : YS) {s : Nat} {w : Nat} (hs : s < 6) (hw : w < 75) : Con Λ yX5_of wsX5_of { frames := 0, cells := 0, slots := 0, locals := 0 } [rf Λ 204, .int (nI s), .int (nI w)] (CC Λ X Y) (some (.int (ofN (yn Y) s w))) (CC Λ X Y) := by
  refine con_start (cc := cX5_of) (maxL := 3) (ret := (some .int)) (by decide) rfl (Nat.le_of_ble_eq_true rfl) ?_
  intro κ hC hR
  have hC : Ok Λ { frames := 0, cells := 0, slots := 0, locals := 0 } cX5_of wsX5_of RX5 3 κ := hC
  refine v_args (lv' := [(0, rf Λ 204), (1, .int (nI s)), (2, .int (nI w))]) rfl ?_
  refine v_aload_n hC dX5_of_0 0 rfl ?_
  refine v_get (T := TX5) (N := 13) (v := rf Λ 205) hC 204 (nR_of (by decide)) (cc_204 Λ X Y) in_X5_of_X5 rfl 0 (by decide) fl_X5_of_7 rfl dX5_of_1 ?_
  refine v_iconst (v := 1) hC dX5_of_4 (by decide) ?_
  refine v_bipush (v := 75) hC dX5_of_5 (by decide) ?_
  refine v_iload_n hC dX5_of_7 1 rfl ?_
  refine v_imul (x := 75) (y := nI s) hC dX5_of_8 ?_
  refine v_topi (y := nI (75 * s)) (pk_mul 75 s) ?_
  refine v_iadd (x := 1) (y := nI (75 * s)) hC dX5_of_9 ?_
  refine v_topi (y := nI (1 + (75 * s))) (nI_add 1 (75 * s)) ?_
  refine v_iload_n hC dX5_of_10 2 rfl ?_
  refine v_iadd (x := nI (1 + (75 * s))) (y := nI w) hC dX5_of_11 ?_
  refine v_topi (y := nI (1 + (75 * s) + w)) (nI_add (1 + (75 * s)) w) ?_
  refine v_iald (n := 451) (f := (yn Y)) hC 205 (nR_of (by decide)) (cc_205 Λ X Y) (1 + (75 * s) + w) rfl (by omega) (by decide) dX5_of_12 ?_
  exact v_iret hC hR rfl rfl dX5_of_13

theorem in_X5_lays_X5 : ∀ w ∈ wsX50, w ∈ wsX5_lays := by decide +kernel
theorem fl_X5_lays_7 : Cond.fieldLink RX5 7 "BoatSetsModel" "now" "[I" ∈ wsX5_lays := by decide +kernel
theorem hd_X5_lays : yX5_lays.cls = RX5 ∧ yX5_lays.cls ≠ "java/lang/invoke/MethodHandle" ∧ yX5_lays.cls ≠ "java/lang/invoke/VarHandle" ∧ (parseMethodDescriptor yX5_lays.desc).map (fun d => d.parameters.length) = some 3 := by decide +kernel
set_option maxHeartbeats 400000 in
set_option maxRecDepth 100000 in
theorem c_X5_lays (Λ : Lk) (X : XS) (Y : YS) {s : Nat} {w : Nat} {v : Int32} (hs : s < 6) (hw : w < 75) : Con Λ yX5_lays wsX5_lays { frames := 0, cells := 0, slots := 0, locals := 0 } [rf Λ 204, .int (nI s), .int (nI w), .int v] (CC Λ X Y) none (CC Λ X (ynS Y (layN (yn Y) s w v))) := by
  refine con_start (cc := cX5_lays) (maxL := 4) (ret := none) (by decide) rfl (Nat.le_of_ble_eq_true rfl) ?_
  intro κ hC hR
  have hC : Ok Λ { frames := 0, cells := 0, slots := 0, locals := 0 } cX5_lays wsX5_lays RX5 4 κ := hC
  refine v_args (lv' := [(0, rf Λ 204), (1, .int (nI s)), (2, .int (nI w)), (3, .int v)]) rfl ?_
  refine v_aload_n hC dX5_lays_0 0 rfl ?_
  refine v_get (T := TX5) (N := 13) (v := rf Λ 205) hC 204 (nR_of (by decide)) (cc_204 Λ X Y) in_X5_lays_X5 rfl 0 (by decide) fl_X5_lays_7 rfl dX5_lays_1 ?_
  refine v_iconst (v := 1) hC dX5_lays_4 (by decide) ?_
  refine v_bipush (v := 75) hC dX5_lays_5 (by decide) ?_
  refine v_iload_n hC dX5_lays_7 1 rfl ?_
  refine v_imul (x := 75) (y := nI s) hC dX5_lays_8 ?_
  refine v_topi (y := nI (75 * s)) (pk_mul 75 s) ?_
  refine v_iadd (x := 1) (y := nI (75 * s)) hC dX5_lays_9 ?_
  refine v_topi (y := nI (1 + (75 * s))) (nI_add 1 (75 * s)) ?_
  refine v_iload_n hC dX5_lays_10 2 rfl ?_
  refine v_iadd (x := nI (1 + (75 * s))) (y := nI w) hC dX5_lays_11 ?_
  refine v_topi (y := nI (1 + (75 * s) + w)) (nI_add (1 + (75 * s)) w) ?_
  refine v_iload_n hC dX5_lays_12 3 rfl ?_
  refine v_iast (n := 451) (f := (yn Y)) hC 205 (nR_of (by decide)) (cc_205 Λ X Y) (1 + (75 * s) + w) rfl (by omega) (by decide) dX5_lays_13 ?_
  refine v_mem (cs_yn Λ X Y (upd (yn Y) (1 + (75 * s) + w) v)) ?_
  exact v_vret hC hR rfl rfl dX5_lays_14

theorem hd_X5_isIn : yX5_isIn.cls = RX5 ∧ yX5_isIn.cls ≠ "java/lang/invoke/MethodHandle" ∧ yX5_isIn.cls ≠ "java/lang/invoke/VarHandle" ∧ (parseMethodDescriptor yX5_isIn.desc).map (fun d => d.parameters.length) = some 2 := by decide +kernel
set_option maxHeartbeats 400000 in
set_option maxRecDepth 100000 in
theorem c_X5_isIn (Λ : Lk) (X : XS) (Y : YS) {s : Nat} {n : Nat} (hs : s < 6) (hn : n < 2048) : Con Λ yX5_isIn wsX5_isIn { frames := 1, cells := 0, slots := 0, locals := 22 } [rf Λ 204, .int (nI s), .int (nI n)] (CC Λ X Y) (some (.int (bI (mb (yn Y) s n)))) (CC Λ X Y) := by
  refine con_start (cc := cX5_isIn) (maxL := 3) (ret := (some .boolean)) (by decide) rfl (Nat.le_of_ble_eq_true rfl) ?_
  intro κ hC hR
  have hC : Ok Λ { frames := 1, cells := 0, slots := 0, locals := 22 } cX5_isIn wsX5_isIn RX5 3 κ := hC
  refine v_args (lv' := [(0, rf Λ 204), (1, .int (nI s)), (2, .int (nI n))]) rfl ?_
  refine v_aload_n hC dX5_isIn_0 0 rfl ?_
  refine v_iload_n hC dX5_isIn_1 1 rfl ?_
  refine v_bipush (v := 11) hC dX5_isIn_2 (by decide) ?_
  refine v_iload_n hC dX5_isIn_4 2 rfl ?_
  refine v_bipush (v := 32) hC dX5_isIn_5 (by decide) ?_
  refine v_idiv (x := nI n) (y := 32) hC dX5_isIn_7 (by decide) ?_
  refine v_topi (y := nI (n / 32)) (pk_div (a := n) (d := 32) (by omega) (by decide) (by decide)) ?_
  refine v_iadd (x := 11) (y := nI (n / 32)) hC dX5_isIn_8 ?_
  refine v_topi (y := nI (11 + (n / 32))) (nI_add 11 (n / 32)) ?_
  refine v_callVr (v := .int (ofN (yn Y) s (11 + (n / 32)))) (C2 := CC Λ X Y) (As := [.int (nI s), .int (nI (11 + (n / 32)))]) (rest := []) hC 2 204 (c_X5_of Λ X Y (s := s) (w := 11 + (n / 32)) (by omega) (by omega)) (nR_of (by decide)) (cc_204 Λ X Y) rfl gX5_isIn_X5_of rfl rfl rfl hd_X5_of ⟨by decide, by decide⟩ rfl rfl (Nat.le_of_ble_eq_true rfl) dX5_isIn_9 ?_
  refine v_iload_n hC dX5_isIn_12 2 rfl ?_
  refine v_bipush (v := 32) hC dX5_isIn_13 (by decide) ?_
  refine v_irem (x := nI n) (y := 32) hC dX5_isIn_15 (by decide) ?_
  refine v_topi (y := nI (n % 32)) (pk_rem (a := n) (d := 32) (by omega) (by decide) (by decide)) ?_
  refine v_ishr (x := ofN (yn Y) s (11 + (n / 32))) (y := nI (n % 32)) hC dX5_isIn_16 ?_
  refine v_iconst (v := 1) hC dX5_isIn_17 (by decide) ?_
  refine v_iand (x := (ofN (yn Y) s (11 + (n / 32))) >>> ((nI (n % 32)) &&& 31)) (y := 1) hC dX5_isIn_18 ?_
  refine v_topi (y := bI (mb (yn Y) s n)) (isIn_bit hn) ?_
  refine v_iconst (v := 1) hC dX5_isIn_19 (by decide) ?_
  refine v_cne (a := mb (yn Y) s n) (b := true) (tgt := 27) hC dX5_isIn_20 (by decide) rfl rfl (fun c20 => ?_) (fun c20 => ?_)
  · skip
    refine v_iconst (v := 0) hC dX5_isIn_27 (by decide) ?_
    exact v_zret hC hR (congrArg (fun z : Int32 => some (Value.int z)) (by simp [bI, c20])) rfl rfl dX5_isIn_28
  · skip
    refine v_iconst (v := 1) hC dX5_isIn_23 (by decide) ?_
    refine v_goto (tgt := 28) hC dX5_isIn_24 (by decide) ?_
    exact v_zret hC hR (congrArg (fun z : Int32 => some (Value.int z)) (by simp [bI, c20])) rfl rfl dX5_isIn_28

theorem hd_X5_in : yX5_in.cls ≠ "java/lang/invoke/MethodHandle" ∧ yX5_in.cls ≠ "java/lang/invoke/VarHandle" ∧ (parseMethodDescriptor yX5_in.desc).map (fun d => d.parameters.length) = some 3 := by decide +kernel
set_option maxHeartbeats 400000 in
set_option maxRecDepth 100000 in
theorem c_X5_in (Λ : Lk) (X : XS) (Y : YS) {v : Int32} {lo : Int32} {hi : Int32} : Con Λ yX5_in wsX5_in { frames := 0, cells := 0, slots := 0, locals := 0 } [.int v, .int lo, .int hi] (CC Λ X Y) (some (.int (bI (inB v lo hi)))) (CC Λ X Y) := by
  refine con_start (cc := cX5_in) (maxL := 3) (ret := (some .boolean)) (by decide) rfl (Nat.le_of_ble_eq_true rfl) ?_
  intro κ hC hR
  have hC : Ok Λ { frames := 0, cells := 0, slots := 0, locals := 0 } cX5_in wsX5_in RX5 3 κ := hC
  refine v_args (lv' := [(0, .int v), (1, .int lo), (2, .int hi)]) rfl ?_
  refine v_iload_n hC dX5_in_0 0 rfl ?_
  refine v_iload_n hC dX5_in_1 1 rfl ?_
  refine v_icmp_lt (x := v) (y := lo) (tgt := 14) hC dX5_in_2 (by decide) (fun c2 => ?_) (fun c2 => ?_)
  · have c2' := Int32.not_le.mpr c2
    refine v_iconst (v := 0) hC dX5_in_14 (by decide) ?_
    exact v_zret hC hR (congrArg (fun z : Int32 => some (Value.int z)) (by first | (rw [inB_lt c2]; rfl) | (rw [inB_gt c7]; rfl) | (rw [inB_in c2 c7]; rfl))) rfl rfl dX5_in_15
  · have c2' := Int32.not_lt.mp c2
    refine v_iload_n hC dX5_in_5 0 rfl ?_
    refine v_iload_n hC dX5_in_6 2 rfl ?_
    refine v_icmp_gt (x := v) (y := hi) (tgt := 14) hC dX5_in_7 (by decide) (fun c7 => ?_) (fun c7 => ?_)
    · have c7' := Int32.not_le.mpr c7
      refine v_iconst (v := 0) hC dX5_in_14 (by decide) ?_
      exact v_zret hC hR (congrArg (fun z : Int32 => some (Value.int z)) (by first | (rw [inB_lt c2]; rfl) | (rw [inB_gt c7]; rfl) | (rw [inB_in c2 c7]; rfl))) rfl rfl dX5_in_15
    · have c7' := Int32.not_lt.mp c7
      refine v_iconst (v := 1) hC dX5_in_10 (by decide) ?_
      refine v_goto (tgt := 15) hC dX5_in_11 (by decide) ?_
      exact v_zret hC hR (congrArg (fun z : Int32 => some (Value.int z)) (by first | (rw [inB_lt c2]; rfl) | (rw [inB_gt c7]; rfl) | (rw [inB_in c2 c7]; rfl))) rfl rfl dX5_in_15

theorem hd_X5_isNumber : yX5_isNumber.cls ≠ "java/lang/invoke/MethodHandle" ∧ yX5_isNumber.cls ≠ "java/lang/invoke/VarHandle" ∧ (parseMethodDescriptor yX5_isNumber.desc).map (fun d => d.parameters.length) = some 1 := by decide +kernel
set_option maxHeartbeats 400000 in
set_option maxRecDepth 100000 in
theorem c_X5_isNumber (Λ : Lk) (X : XS) (Y : YS) {v : Int32} : Con Λ yX5_isNumber wsX5_isNumber { frames := 1, cells := 0, slots := 0, locals := 22 } [.int v] (CC Λ X Y) (some (.int (bI (inB v 0 2047)))) (CC Λ X Y) := by
  refine con_start (cc := cX5_isNumber) (maxL := 1) (ret := (some .boolean)) (by decide) rfl (Nat.le_of_ble_eq_true rfl) ?_
  intro κ hC hR
  have hC : Ok Λ { frames := 1, cells := 0, slots := 0, locals := 22 } cX5_isNumber wsX5_isNumber RX5 1 κ := hC
  refine v_args (lv' := [(0, .int v)]) rfl ?_
  refine v_iload_n hC dX5_isNumber_0 0 rfl ?_
  refine v_iconst (v := 0) hC dX5_isNumber_1 (by decide) ?_
  refine v_sipush (v := 2047) hC dX5_isNumber_2 (by decide) ?_
  refine v_callSr (v := .int (bI (inB v 0 2047))) (C2 := CC Λ X Y) (As := [.int v, .int 0, .int 2047]) (rest := []) hC 3 (c_X5_in Λ X Y (v := v) (lo := 0) (hi := 2047)) gX5_isNumber_X5_in rfl rfl rfl hd_X5_in ⟨by decide, by decide⟩ rfl rfl (Nat.le_of_ble_eq_true rfl) dX5_isNumber_5 ?_
  exact v_zret hC hR rfl rfl (nar_b _) dX5_isNumber_8

theorem hd_X5_kindOf : yX5_kindOf.cls = RX5 ∧ yX5_kindOf.cls ≠ "java/lang/invoke/MethodHandle" ∧ yX5_kindOf.cls ≠ "java/lang/invoke/VarHandle" ∧ (parseMethodDescriptor yX5_kindOf.desc).map (fun d => d.parameters.length) = some 2 := by decide +kernel
set_option maxHeartbeats 400000 in
set_option maxRecDepth 100000 in
theorem c_X5_kindOf (Λ : Lk) (X : XS) (Y : YS) {s : Nat} {b : Nat} (hs : s < 6) (hb : b < 8) : Con Λ yX5_kindOf wsX5_kindOf { frames := 1, cells := 0, slots := 0, locals := 22 } [rf Λ 204, .int (nI s), .int (nI b)] (CC Λ X Y) (some (.int (kindN (yn Y) s b))) (CC Λ X Y) := by
  refine con_start (cc := cX5_kindOf) (maxL := 3) (ret := (some .int)) (by decide) rfl (Nat.le_of_ble_eq_true rfl) ?_
  intro κ hC hR
  have hC : Ok Λ { frames := 1, cells := 0, slots := 0, locals := 22 } cX5_kindOf wsX5_kindOf RX5 3 κ := hC
  refine v_args (lv' := [(0, rf Λ 204), (1, .int (nI s)), (2, .int (nI b))]) rfl ?_
  refine v_aload_n hC dX5_kindOf_0 0 rfl ?_
  refine v_iload_n hC dX5_kindOf_1 1 rfl ?_
  refine v_iconst (v := 3) hC dX5_kindOf_2 (by decide) ?_
  refine v_iload_n hC dX5_kindOf_3 2 rfl ?_
  refine v_iadd (x := 3) (y := nI b) hC dX5_kindOf_4 ?_
  refine v_topi (y := nI (3 + b)) (nI_add 3 b) ?_
  refine v_callVr (v := .int (ofN (yn Y) s (3 + b))) (C2 := CC Λ X Y) (As := [.int (nI s), .int (nI (3 + b))]) (rest := []) hC 2 204 (c_X5_of Λ X Y (s := s) (w := 3 + b) (by omega) (by omega)) (nR_of (by decide)) (cc_204 Λ X Y) rfl gX5_kindOf_X5_of rfl rfl rfl hd_X5_of ⟨by decide, by decide⟩ rfl rfl (Nat.le_of_ble_eq_true rfl) dX5_kindOf_5 ?_
  refine v_iconst (v := 1) hC dX5_kindOf_8 (by decide) ?_
  refine v_isub (x := ofN (yn Y) s (3 + b)) (y := 1) hC dX5_kindOf_9 ?_
  exact v_iret hC hR rfl rfl dX5_kindOf_10

theorem hd_X5_manyIn : yX5_manyIn.cls = RX5 ∧ yX5_manyIn.cls ≠ "java/lang/invoke/MethodHandle" ∧ yX5_manyIn.cls ≠ "java/lang/invoke/VarHandle" ∧ (parseMethodDescriptor yX5_manyIn.desc).map (fun d => d.parameters.length) = some 2 := by decide +kernel
set_option maxHeartbeats 400000 in
set_option maxRecDepth 100000 in
theorem c_X5_manyIn (Λ : Lk) (X : XS) (Y : YS) {s : Nat} {b : Nat} (hs : s < 6) (hb : b < 8) : Con Λ yX5_manyIn wsX5_manyIn { frames := 2, cells := 0, slots := 0, locals := 44 } [rf Λ 204, .int (nI s), .int (nI b)] (CC Λ X Y) (some (.int (nI (manyN (yn Y) s b)))) (CC Λ X Y) := by
  refine con_start (cc := cX5_manyIn) (maxL := 5) (ret := (some .int)) (by decide) rfl (Nat.le_of_ble_eq_true rfl) ?_
  intro κ hC hR
  have hC : Ok Λ { frames := 2, cells := 0, slots := 0, locals := 44 } cX5_manyIn wsX5_manyIn RX5 5 κ := hC
  refine v_args (lv' := [(0, rf Λ 204), (1, .int (nI s)), (2, .int (nI b))]) rfl ?_
  refine v_iconst (v := 0) hC dX5_manyIn_0 (by decide) ?_
  refine v_istore_n (lv' := [(3, .int 0), (0, rf Λ 204), (1, .int (nI s)), (2, .int (nI b))]) hC dX5_manyIn_1 (by decide) rfl ?_
  refine v_sipush (v := 256) hC dX5_manyIn_2 (by decide) ?_
  refine v_iload_n hC dX5_manyIn_5 3 rfl ?_
  refine v_imul (x := 256) (y := nI b) hC dX5_manyIn_6 ?_
  refine v_topi (y := nI (256 * b)) (pk_mul 256 b) ?_
  refine v_istore (lv' := [(4, .int (nI (256 * b))), (3, .int 0), (0, rf Λ 204), (1, .int (nI s)), (2, .int (nI b))]) hC dX5_manyIn_7 (by decide) rfl ?_
  have L9 : ∀ (fu9 : Nat) (j : Nat) (x3 : Int32) (x4 : Int32), j ≤ 256 → x3 = nI (cnt (mb (yn Y) s) (256 * b) j) → x4 = nI (256 * b + j) → 256 - j < fu9 → V Λ κ (CC Λ X Y) 9 [(0, rf Λ 204), (1, .int (nI s)), (2, .int (nI b)), (3, .int x3), (4, .int x4)] [] := by
    intro fu9
    induction fu9 with
    | zero => intro j x3 x4 hj e3 e4 hfu9; exact absurd hfu9 (Nat.not_lt_zero _)
    | succ fu9 ih9 =>
      intro j x3 x4 hj e3 e4 hfu9
      subst e3
      subst e4
      have hcl := cnt_le (mb (yn Y) s) (256 * b) j
      refine v_iload hC dX5_manyIn_9 4 rfl ?_
      refine v_sipush (v := 256) hC dX5_manyIn_11 (by decide) ?_
      refine v_iload_n hC dX5_manyIn_14 2 rfl ?_
      refine v_imul (x := 256) (y := nI b) hC dX5_manyIn_15 ?_
      refine v_topi (y := nI (256 * b)) (pk_mul 256 b) ?_
      refine v_sipush (v := 256) hC dX5_manyIn_16 (by decide) ?_
      refine v_iadd (x := nI (256 * b)) (y := 256) hC dX5_manyIn_19 ?_
      refine v_topi (y := nI (256 * b + 256)) (nI_add (256 * b) 256) ?_
      refine v_nge (a := 256 * b + j) (b := 256 * b + 256) (tgt := 47) hC dX5_manyIn_20 (by decide) rfl rfl (by omega) (by omega) (fun c20 => ?_) (fun c20 => ?_)
      · have c20' := Nat.not_lt.mpr c20
        refine v_iload_n hC dX5_manyIn_47 3 rfl ?_
        exact v_iret hC hR (congrArg (fun z : Int32 => some (Value.int z)) (by have e : j = 256 := (by omega); subst e; rfl)) rfl dX5_manyIn_48
      · have c20' := Nat.not_le.mpr c20
        refine v_iload_n hC dX5_manyIn_23 3 rfl ?_
        refine v_aload_n hC dX5_manyIn_24 0 rfl ?_
        refine v_iload_n hC dX5_manyIn_25 1 rfl ?_
        refine v_iload hC dX5_manyIn_26 4 rfl ?_
        refine v_callVr (v := .int (bI (mb (yn Y) s (256 * b + j)))) (C2 := CC Λ X Y) (As := [.int (nI s), .int (nI (256 * b + j))]) (rest := [.int (nI (cnt (mb (yn Y) s) (256 * b) j))]) hC 2 204 (c_X5_isIn Λ X Y (s := s) (n := 256 * b + j) (by omega) (by omega)) (nR_of (by decide)) (cc_204 Λ X Y) rfl gX5_manyIn_X5_isIn rfl rfl rfl hd_X5_isIn ⟨by decide, by decide⟩ rfl rfl (Nat.le_of_ble_eq_true rfl) dX5_manyIn_28 ?_
        refine v_beq (b := mb (yn Y) s (256 * b + j)) (tgt := 38) hC dX5_manyIn_31 (by decide) (fun c31 => ?_) (fun c31 => ?_)
        · skip
          refine v_iconst (v := 0) hC dX5_manyIn_38 (by decide) ?_
          refine v_iadd (x := nI (cnt (mb (yn Y) s) (256 * b) j)) (y := 0) hC dX5_manyIn_39 ?_
          refine v_topi (y := nI (cnt (mb (yn Y) s) (256 * b) j + 0)) (nI_add (cnt (mb (yn Y) s) (256 * b) j) 0) ?_
          refine v_istore_n (lv' := [(3, .int (nI (cnt (mb (yn Y) s) (256 * b) j + 0))), (0, rf Λ 204), (1, .int (nI s)), (2, .int (nI b)), (4, .int (nI (256 * b + j)))]) hC dX5_manyIn_40 (by decide) rfl ?_
          refine v_iinc (j := 4) (v := nI (256 * b + j + 1)) (lv' := [(4, .int (nI (256 * b + j + 1))), (3, .int (nI (cnt (mb (yn Y) s) (256 * b) j + 0))), (0, rf Λ 204), (1, .int (nI s)), (2, .int (nI b))]) hC dX5_manyIn_41 rfl (nI_add (256 * b + j) 1) (by decide) rfl ?_
          refine v_goto (tgt := 9) hC dX5_manyIn_44 (by decide) ?_
          refine v_sub (lv' := [(0, rf Λ 204), (1, .int (nI s)), (2, .int (nI b)), (3, .int (nI (cnt (mb (yn Y) s) (256 * b) j + 0))), (4, .int (nI (256 * b + j + 1)))]) [2, 3, 4, 1, 0] rfl ?_
          exact ih9 (j + 1) _ _ (by omega) (by first | rw [cnt_T c31] | (rw [cnt_F c31]; rfl)) rfl (by omega)
        · skip
          refine v_iconst (v := 1) hC dX5_manyIn_34 (by decide) ?_
          refine v_goto (tgt := 39) hC dX5_manyIn_35 (by decide) ?_
          refine v_iadd (x := nI (cnt (mb (yn Y) s) (256 * b) j)) (y := 1) hC dX5_manyIn_39 ?_
          refine v_topi (y := nI (cnt (mb (yn Y) s) (256 * b) j + 1)) (nI_add (cnt (mb (yn Y) s) (256 * b) j) 1) ?_
          refine v_istore_n (lv' := [(3, .int (nI (cnt (mb (yn Y) s) (256 * b) j + 1))), (0, rf Λ 204), (1, .int (nI s)), (2, .int (nI b)), (4, .int (nI (256 * b + j)))]) hC dX5_manyIn_40 (by decide) rfl ?_
          refine v_iinc (j := 4) (v := nI (256 * b + j + 1)) (lv' := [(4, .int (nI (256 * b + j + 1))), (3, .int (nI (cnt (mb (yn Y) s) (256 * b) j + 1))), (0, rf Λ 204), (1, .int (nI s)), (2, .int (nI b))]) hC dX5_manyIn_41 rfl (nI_add (256 * b + j) 1) (by decide) rfl ?_
          refine v_goto (tgt := 9) hC dX5_manyIn_44 (by decide) ?_
          refine v_sub (lv' := [(0, rf Λ 204), (1, .int (nI s)), (2, .int (nI b)), (3, .int (nI (cnt (mb (yn Y) s) (256 * b) j + 1))), (4, .int (nI (256 * b + j + 1)))]) [2, 3, 4, 1, 0] rfl ?_
          exact ih9 (j + 1) _ _ (by omega) (by first | rw [cnt_T c31] | (rw [cnt_F c31]; rfl)) rfl (by omega)
  refine v_sub (lv' := [(0, rf Λ 204), (1, .int (nI s)), (2, .int (nI b)), (3, .int 0), (4, .int (nI (256 * b)))]) [2, 3, 4, 1, 0] rfl ?_
  exact L9 _ 0 _ _ (by omega) rfl rfl (Nat.lt_succ_self _)

theorem hd_X5_runsIn : yX5_runsIn.cls = RX5 ∧ yX5_runsIn.cls ≠ "java/lang/invoke/MethodHandle" ∧ yX5_runsIn.cls ≠ "java/lang/invoke/VarHandle" ∧ (parseMethodDescriptor yX5_runsIn.desc).map (fun d => d.parameters.length) = some 2 := by decide +kernel
set_option maxHeartbeats 400000 in
set_option maxRecDepth 100000 in
theorem c_X5_runsIn (Λ : Lk) (X : XS) (Y : YS) {s : Nat} {b : Nat} (hs : s < 6) (hb : b < 8) : Con Λ yX5_runsIn wsX5_runsIn { frames := 2, cells := 0, slots := 0, locals := 44 } [rf Λ 204, .int (nI s), .int (nI b)] (CC Λ X Y) (some (.int (nI (runsN (yn Y) s b)))) (CC Λ X Y) := by
  refine con_start (cc := cX5_runsIn) (maxL := 5) (ret := (some .int)) (by decide) rfl (Nat.le_of_ble_eq_true rfl) ?_
  intro κ hC hR
  have hC : Ok Λ { frames := 2, cells := 0, slots := 0, locals := 44 } cX5_runsIn wsX5_runsIn RX5 5 κ := hC
  refine v_args (lv' := [(0, rf Λ 204), (1, .int (nI s)), (2, .int (nI b))]) rfl ?_
  refine v_iconst (v := 0) hC dX5_runsIn_0 (by decide) ?_
  refine v_istore_n (lv' := [(3, .int 0), (0, rf Λ 204), (1, .int (nI s)), (2, .int (nI b))]) hC dX5_runsIn_1 (by decide) rfl ?_
  refine v_sipush (v := 256) hC dX5_runsIn_2 (by decide) ?_
  refine v_iload_n hC dX5_runsIn_5 3 rfl ?_
  refine v_imul (x := 256) (y := nI b) hC dX5_runsIn_6 ?_
  refine v_topi (y := nI (256 * b)) (pk_mul 256 b) ?_
  refine v_istore (lv' := [(4, .int (nI (256 * b))), (3, .int 0), (0, rf Λ 204), (1, .int (nI s)), (2, .int (nI b))]) hC dX5_runsIn_7 (by decide) rfl ?_
  have L9 : ∀ (fu9 : Nat) (j : Nat) (x3 : Int32) (x4 : Int32), j ≤ 256 → x3 = nI (cnt (runB (mb (yn Y) s)) (256 * b) j) → x4 = nI (256 * b + j) → 256 - j < fu9 → V Λ κ (CC Λ X Y) 9 [(0, rf Λ 204), (1, .int (nI s)), (2, .int (nI b)), (3, .int x3), (4, .int x4)] [] := by
    intro fu9
    induction fu9 with
    | zero => intro j x3 x4 hj e3 e4 hfu9; exact absurd hfu9 (Nat.not_lt_zero _)
    | succ fu9 ih9 =>
      intro j x3 x4 hj e3 e4 hfu9
      subst e3
      subst e4
      have hcl := cnt_le (runB (mb (yn Y) s)) (256 * b) j
      refine v_iload hC dX5_runsIn_9 4 rfl ?_
      refine v_sipush (v := 256) hC dX5_runsIn_11 (by decide) ?_
      refine v_iload_n hC dX5_runsIn_14 2 rfl ?_
      refine v_imul (x := 256) (y := nI b) hC dX5_runsIn_15 ?_
      refine v_topi (y := nI (256 * b)) (pk_mul 256 b) ?_
      refine v_sipush (v := 256) hC dX5_runsIn_16 (by decide) ?_
      refine v_iadd (x := nI (256 * b)) (y := 256) hC dX5_runsIn_19 ?_
      refine v_topi (y := nI (256 * b + 256)) (nI_add (256 * b) 256) ?_
      refine v_nge (a := 256 * b + j) (b := 256 * b + 256) (tgt := 68) hC dX5_runsIn_20 (by decide) rfl rfl (by omega) (by omega) (fun c20 => ?_) (fun c20 => ?_)
      · have c20' := Nat.not_lt.mpr c20
        refine v_iload_n hC dX5_runsIn_68 3 rfl ?_
        exact v_iret hC hR (congrArg (fun z : Int32 => some (Value.int z)) (by have e : j = 256 := (by omega); subst e; rfl)) rfl dX5_runsIn_69
      · have c20' := Nat.not_le.mpr c20
        refine v_iload_n hC dX5_runsIn_23 3 rfl ?_
        refine v_aload_n hC dX5_runsIn_24 0 rfl ?_
        refine v_iload_n hC dX5_runsIn_25 1 rfl ?_
        refine v_iload hC dX5_runsIn_26 4 rfl ?_
        refine v_callVr (v := .int (bI (mb (yn Y) s (256 * b + j)))) (C2 := CC Λ X Y) (As := [.int (nI s), .int (nI (256 * b + j))]) (rest := [.int (nI (cnt (runB (mb (yn Y) s)) (256 * b) j))]) hC 2 204 (c_X5_isIn Λ X Y (s := s) (n := 256 * b + j) (by omega) (by omega)) (nR_of (by decide)) (cc_204 Λ X Y) rfl gX5_runsIn_X5_isIn rfl rfl rfl hd_X5_isIn ⟨by decide, by decide⟩ rfl rfl (Nat.le_of_ble_eq_true rfl) dX5_runsIn_28 ?_
        refine v_beq (b := mb (yn Y) s (256 * b + j)) (tgt := 59) hC dX5_runsIn_31 (by decide) (fun c31 => ?_) (fun c31 => ?_)
        · skip
          refine v_iconst (v := 0) hC dX5_runsIn_59 (by decide) ?_
          refine v_iadd (x := nI (cnt (runB (mb (yn Y) s)) (256 * b) j)) (y := 0) hC dX5_runsIn_60 ?_
          refine v_topi (y := nI (cnt (runB (mb (yn Y) s)) (256 * b) j + 0)) (nI_add (cnt (runB (mb (yn Y) s)) (256 * b) j) 0) ?_
          refine v_istore_n (lv' := [(3, .int (nI (cnt (runB (mb (yn Y) s)) (256 * b) j + 0))), (0, rf Λ 204), (1, .int (nI s)), (2, .int (nI b)), (4, .int (nI (256 * b + j)))]) hC dX5_runsIn_61 (by decide) rfl ?_
          refine v_iinc (j := 4) (v := nI (256 * b + j + 1)) (lv' := [(4, .int (nI (256 * b + j + 1))), (3, .int (nI (cnt (runB (mb (yn Y) s)) (256 * b) j + 0))), (0, rf Λ 204), (1, .int (nI s)), (2, .int (nI b))]) hC dX5_runsIn_62 rfl (nI_add (256 * b + j) 1) (by decide) rfl ?_
          refine v_goto (tgt := 9) hC dX5_runsIn_65 (by decide) ?_
          refine v_sub (lv' := [(0, rf Λ 204), (1, .int (nI s)), (2, .int (nI b)), (3, .int (nI (cnt (runB (mb (yn Y) s)) (256 * b) j + 0))), (4, .int (nI (256 * b + j + 1)))]) [2, 3, 4, 1, 0] rfl ?_
          exact ih9 (j + 1) _ _ (by omega) (by first | (rw [cnt_F (runB_F3 c31 c40 c52)]; rfl) | rw [cnt_T (runB_T3 c31 c52)] | rw [cnt_T (runB_T2 c31 c40)] | (rw [cnt_F (runB_F1 c31)]; rfl)) rfl (by omega)
        · skip
          refine v_iload hC dX5_runsIn_34 4 rfl ?_
          refine v_sipush (v := 256) hC dX5_runsIn_36 (by decide) ?_
          refine v_irem (x := nI (256 * b + j)) (y := 256) hC dX5_runsIn_39 (by decide) ?_
          refine v_topi (y := nI ((256 * b + j) % 256)) (pk_rem (a := 256 * b + j) (d := 256) (by omega) (by decide) (by decide)) ?_
          refine v_zeq (a := (256 * b + j) % 256) (tgt := 55) hC dX5_runsIn_40 (by decide) rfl (by omega) (fun c40 => ?_) (fun c40 => ?_)
          · skip
            refine v_iconst (v := 1) hC dX5_runsIn_55 (by decide) ?_
            refine v_goto (tgt := 60) hC dX5_runsIn_56 (by decide) ?_
            refine v_iadd (x := nI (cnt (runB (mb (yn Y) s)) (256 * b) j)) (y := 1) hC dX5_runsIn_60 ?_
            refine v_topi (y := nI (cnt (runB (mb (yn Y) s)) (256 * b) j + 1)) (nI_add (cnt (runB (mb (yn Y) s)) (256 * b) j) 1) ?_
            refine v_istore_n (lv' := [(3, .int (nI (cnt (runB (mb (yn Y) s)) (256 * b) j + 1))), (0, rf Λ 204), (1, .int (nI s)), (2, .int (nI b)), (4, .int (nI (256 * b + j)))]) hC dX5_runsIn_61 (by decide) rfl ?_
            refine v_iinc (j := 4) (v := nI (256 * b + j + 1)) (lv' := [(4, .int (nI (256 * b + j + 1))), (3, .int (nI (cnt (runB (mb (yn Y) s)) (256 * b) j + 1))), (0, rf Λ 204), (1, .int (nI s)), (2, .int (nI b))]) hC dX5_runsIn_62 rfl (nI_add (256 * b + j) 1) (by decide) rfl ?_
            refine v_goto (tgt := 9) hC dX5_runsIn_65 (by decide) ?_
            refine v_sub (lv' := [(0, rf Λ 204), (1, .int (nI s)), (2, .int (nI b)), (3, .int (nI (cnt (runB (mb (yn Y) s)) (256 * b) j + 1))), (4, .int (nI (256 * b + j + 1)))]) [2, 3, 4, 1, 0] rfl ?_
            exact ih9 (j + 1) _ _ (by omega) (by first | (rw [cnt_F (runB_F3 c31 c40 c52)]; rfl) | rw [cnt_T (runB_T3 c31 c52)] | rw [cnt_T (runB_T2 c31 c40)] | (rw [cnt_F (runB_F1 c31)]; rfl)) rfl (by omega)
          · skip
            refine v_aload_n hC dX5_runsIn_43 0 rfl ?_
            refine v_iload_n hC dX5_runsIn_44 1 rfl ?_
            refine v_iload hC dX5_runsIn_45 4 rfl ?_
            refine v_iconst (v := 1) hC dX5_runsIn_47 (by decide) ?_
            refine v_isub (x := nI (256 * b + j)) (y := 1) hC dX5_runsIn_48 ?_
            refine v_topi (y := nI ((256 * b + j) - 1)) (pk_sub (a := 256 * b + j) (b := 1) (by omega)) ?_
            refine v_callVr (v := .int (bI (mb (yn Y) s ((256 * b + j) - 1)))) (C2 := CC Λ X Y) (As := [.int (nI s), .int (nI ((256 * b + j) - 1))]) (rest := [.int (nI (cnt (runB (mb (yn Y) s)) (256 * b) j))]) hC 2 204 (c_X5_isIn Λ X Y (s := s) (n := (256 * b + j) - 1) (by omega) (by omega)) (nR_of (by decide)) (cc_204 Λ X Y) rfl gX5_runsIn_X5_isIn rfl rfl rfl hd_X5_isIn ⟨by decide, by decide⟩ rfl rfl (Nat.le_of_ble_eq_true rfl) dX5_runsIn_49 ?_
            refine v_bne (b := mb (yn Y) s ((256 * b + j) - 1)) (tgt := 59) hC dX5_runsIn_52 (by decide) (fun c52 => ?_) (fun c52 => ?_)
            · skip
              refine v_iconst (v := 0) hC dX5_runsIn_59 (by decide) ?_
              refine v_iadd (x := nI (cnt (runB (mb (yn Y) s)) (256 * b) j)) (y := 0) hC dX5_runsIn_60 ?_
              refine v_topi (y := nI (cnt (runB (mb (yn Y) s)) (256 * b) j + 0)) (nI_add (cnt (runB (mb (yn Y) s)) (256 * b) j) 0) ?_
              refine v_istore_n (lv' := [(3, .int (nI (cnt (runB (mb (yn Y) s)) (256 * b) j + 0))), (0, rf Λ 204), (1, .int (nI s)), (2, .int (nI b)), (4, .int (nI (256 * b + j)))]) hC dX5_runsIn_61 (by decide) rfl ?_
              refine v_iinc (j := 4) (v := nI (256 * b + j + 1)) (lv' := [(4, .int (nI (256 * b + j + 1))), (3, .int (nI (cnt (runB (mb (yn Y) s)) (256 * b) j + 0))), (0, rf Λ 204), (1, .int (nI s)), (2, .int (nI b))]) hC dX5_runsIn_62 rfl (nI_add (256 * b + j) 1) (by decide) rfl ?_
              refine v_goto (tgt := 9) hC dX5_runsIn_65 (by decide) ?_
              refine v_sub (lv' := [(0, rf Λ 204), (1, .int (nI s)), (2, .int (nI b)), (3, .int (nI (cnt (runB (mb (yn Y) s)) (256 * b) j + 0))), (4, .int (nI (256 * b + j + 1)))]) [2, 3, 4, 1, 0] rfl ?_
              exact ih9 (j + 1) _ _ (by omega) (by first | (rw [cnt_F (runB_F3 c31 c40 c52)]; rfl) | rw [cnt_T (runB_T3 c31 c52)] | rw [cnt_T (runB_T2 c31 c40)] | (rw [cnt_F (runB_F1 c31)]; rfl)) rfl (by omega)
            · skip
              refine v_iconst (v := 1) hC dX5_runsIn_55 (by decide) ?_
              refine v_goto (tgt := 60) hC dX5_runsIn_56 (by decide) ?_
              refine v_iadd (x := nI (cnt (runB (mb (yn Y) s)) (256 * b) j)) (y := 1) hC dX5_runsIn_60 ?_
              refine v_topi (y := nI (cnt (runB (mb (yn Y) s)) (256 * b) j + 1)) (nI_add (cnt (runB (mb (yn Y) s)) (256 * b) j) 1) ?_
              refine v_istore_n (lv' := [(3, .int (nI (cnt (runB (mb (yn Y) s)) (256 * b) j + 1))), (0, rf Λ 204), (1, .int (nI s)), (2, .int (nI b)), (4, .int (nI (256 * b + j)))]) hC dX5_runsIn_61 (by decide) rfl ?_
              refine v_iinc (j := 4) (v := nI (256 * b + j + 1)) (lv' := [(4, .int (nI (256 * b + j + 1))), (3, .int (nI (cnt (runB (mb (yn Y) s)) (256 * b) j + 1))), (0, rf Λ 204), (1, .int (nI s)), (2, .int (nI b))]) hC dX5_runsIn_62 rfl (nI_add (256 * b + j) 1) (by decide) rfl ?_
              refine v_goto (tgt := 9) hC dX5_runsIn_65 (by decide) ?_
              refine v_sub (lv' := [(0, rf Λ 204), (1, .int (nI s)), (2, .int (nI b)), (3, .int (nI (cnt (runB (mb (yn Y) s)) (256 * b) j + 1))), (4, .int (nI (256 * b + j + 1)))]) [2, 3, 4, 1, 0] rfl ?_
              exact ih9 (j + 1) _ _ (by omega) (by first | (rw [cnt_F (runB_F3 c31 c40 c52)]; rfl) | rw [cnt_T (runB_T3 c31 c52)] | rw [cnt_T (runB_T2 c31 c40)] | (rw [cnt_F (runB_F1 c31)]; rfl)) rfl (by omega)
  refine v_sub (lv' := [(0, rf Λ 204), (1, .int (nI s)), (2, .int (nI b)), (3, .int 0), (4, .int (nI (256 * b)))]) [2, 3, 4, 1, 0] rfl ?_
  exact L9 _ 0 _ _ (by omega) rfl rfl (Nat.lt_succ_self _)

theorem hd_X5_holds : yX5_holds.cls ≠ "java/lang/invoke/MethodHandle" ∧ yX5_holds.cls ≠ "java/lang/invoke/VarHandle" ∧ (parseMethodDescriptor yX5_holds.desc).map (fun d => d.parameters.length) = some 3 := by decide +kernel
set_option maxHeartbeats 400000 in
set_option maxRecDepth 100000 in
theorem c_X5_holds (Λ : Lk) (X : XS) (Y : YS) {k : Int32} {m : Int32} {r : Int32} : Con Λ yX5_holds wsX5_holds { frames := 0, cells := 0, slots := 0, locals := 0 } [.int k, .int m, .int r] (CC Λ X Y) (some (.int (bI (holdsI k m r)))) (CC Λ X Y) := by
  refine con_start (cc := cX5_holds) (maxL := 3) (ret := (some .boolean)) (by decide) rfl (Nat.le_of_ble_eq_true rfl) ?_
  intro κ hC hR
  have hC : Ok Λ { frames := 0, cells := 0, slots := 0, locals := 0 } cX5_holds wsX5_holds RX5 3 κ := hC
  refine v_args (lv' := [(0, .int k), (1, .int m), (2, .int r)]) rfl ?_
  refine v_iload_n hC dX5_holds_0 0 rfl ?_
  refine v_if_ne (tgt := 18) hC dX5_holds_1 (by decide) (fun c1 => ?_) (fun c1 => ?_)
  · skip
    refine v_iload_n hC dX5_holds_18 0 rfl ?_
    refine v_iconst (v := 1) hC dX5_holds_19 (by decide) ?_
    refine v_icmp_eq (x := k) (y := 1) (tgt := 29) hC dX5_holds_20 (by decide) (fun c20 => ?_) (fun c20 => ?_)
    · skip
      refine v_iconst (v := 1) hC dX5_holds_29 (by decide) ?_
      refine v_goto (tgt := 34) hC dX5_holds_30 (by decide) ?_
      exact v_zret hC hR (congrArg (fun z : Int32 => some (Value.int z)) (by simp [bI, holdsI, c1, c20])) rfl rfl dX5_holds_34
    · skip
      refine v_iload_n hC dX5_holds_23 2 rfl ?_
      refine v_bipush (v := 8) hC dX5_holds_24 (by decide) ?_
      refine v_icmp_gt (x := r) (y := 8) (tgt := 33) hC dX5_holds_26 (by decide) (fun c26 => ?_) (fun c26 => ?_)
      · have c26' := Int32.not_le.mpr c26
        refine v_iconst (v := 0) hC dX5_holds_33 (by decide) ?_
        exact v_zret hC hR (congrArg (fun z : Int32 => some (Value.int z)) (by simp [bI, holdsI, c1, c20, c26, c26'])) rfl rfl dX5_holds_34
      · have c26' := Int32.not_lt.mp c26
        refine v_iconst (v := 1) hC dX5_holds_29 (by decide) ?_
        refine v_goto (tgt := 34) hC dX5_holds_30 (by decide) ?_
        exact v_zret hC hR (congrArg (fun z : Int32 => some (Value.int z)) (by simp [bI, holdsI, c1, c20, c26, c26'])) rfl rfl dX5_holds_34
  · skip
    refine v_iload_n hC dX5_holds_4 1 rfl ?_
    refine v_bipush (v := 24) hC dX5_holds_5 (by decide) ?_
    refine v_icmp_gt (x := m) (y := 24) (tgt := 14) hC dX5_holds_7 (by decide) (fun c7 => ?_) (fun c7 => ?_)
    · have c7' := Int32.not_le.mpr c7
      refine v_iconst (v := 0) hC dX5_holds_14 (by decide) ?_
      refine v_goto (tgt := 34) hC dX5_holds_15 (by decide) ?_
      exact v_zret hC hR (congrArg (fun z : Int32 => some (Value.int z)) (by simp [bI, holdsI, c1, c7, c7'])) rfl rfl dX5_holds_34
    · have c7' := Int32.not_lt.mp c7
      refine v_iconst (v := 1) hC dX5_holds_10 (by decide) ?_
      refine v_goto (tgt := 34) hC dX5_holds_11 (by decide) ?_
      exact v_zret hC hR (congrArg (fun z : Int32 => some (Value.int z)) (by simp [bI, holdsI, c1, c7, c7'])) rfl rfl dX5_holds_34

theorem hd_X5_units : yX5_units.cls ≠ "java/lang/invoke/MethodHandle" ∧ yX5_units.cls ≠ "java/lang/invoke/VarHandle" ∧ (parseMethodDescriptor yX5_units.desc).map (fun d => d.parameters.length) = some 3 := by decide +kernel
set_option maxHeartbeats 400000 in
set_option maxRecDepth 100000 in
theorem c_X5_units (Λ : Lk) (X : XS) (Y : YS) {k : Int32} {m : Int32} {r : Int32} : Con Λ yX5_units wsX5_units { frames := 0, cells := 0, slots := 0, locals := 0 } [.int k, .int m, .int r] (CC Λ X Y) (some (.int (unitsI k m r))) (CC Λ X Y) := by
  refine con_start (cc := cX5_units) (maxL := 3) (ret := (some .int)) (by decide) rfl (Nat.le_of_ble_eq_true rfl) ?_
  intro κ hC hR
  have hC : Ok Λ { frames := 0, cells := 0, slots := 0, locals := 0 } cX5_units wsX5_units RX5 3 κ := hC
  refine v_args (lv' := [(0, .int k), (1, .int m), (2, .int r)]) rfl ?_
  refine v_iload_n hC dX5_units_0 0 rfl ?_
  refine v_if_ne (tgt := 10) hC dX5_units_1 (by decide) (fun c1 => ?_) (fun c1 => ?_)
  · skip
    refine v_iload_n hC dX5_units_10 0 rfl ?_
    refine v_iconst (v := 1) hC dX5_units_11 (by decide) ?_
    refine v_icmp_ne (x := k) (y := 1) (tgt := 20) hC dX5_units_12 (by decide) (fun c12 => ?_) (fun c12 => ?_)
    · skip
      refine v_iconst (v := 3) hC dX5_units_20 (by decide) ?_
      refine v_iload_n hC dX5_units_21 2 rfl ?_
      refine v_imul (x := 3) (y := r) hC dX5_units_22 ?_
      exact v_iret hC hR (congrArg (fun z : Int32 => some (Value.int z)) (by simp [unitsI, c1, c12])) rfl dX5_units_23
    · skip
      refine v_bipush (v := 32) hC dX5_units_15 (by decide) ?_
      refine v_goto (tgt := 23) hC dX5_units_17 (by decide) ?_
      exact v_iret hC hR (congrArg (fun z : Int32 => some (Value.int z)) (by simp [unitsI, c1, c12])) rfl dX5_units_23
  · skip
    refine v_iconst (v := 2) hC dX5_units_4 (by decide) ?_
    refine v_iload_n hC dX5_units_5 1 rfl ?_
    refine v_imul (x := 2) (y := m) hC dX5_units_6 ?_
    refine v_goto (tgt := 23) hC dX5_units_7 (by decide) ?_
    exact v_iret hC hR (congrArg (fun z : Int32 => some (Value.int z)) (by simp [unitsI, c1])) rfl dX5_units_23

theorem hd_X5_best : yX5_best.cls ≠ "java/lang/invoke/MethodHandle" ∧ yX5_best.cls ≠ "java/lang/invoke/VarHandle" ∧ (parseMethodDescriptor yX5_best.desc).map (fun d => d.parameters.length) = some 2 := by decide +kernel
set_option maxHeartbeats 400000 in
set_option maxRecDepth 100000 in
theorem c_X5_best (Λ : Lk) (X : XS) (Y : YS) {m : Int32} {r : Int32} : Con Λ yX5_best wsX5_best { frames := 1, cells := 0, slots := 0, locals := 22 } [.int m, .int r] (CC Λ X Y) (some (.int (bestI m r))) (CC Λ X Y) := by
  refine con_start (cc := cX5_best) (maxL := 3) (ret := (some .int)) (by decide) rfl (Nat.le_of_ble_eq_true rfl) ?_
  intro κ hC hR
  have hC : Ok Λ { frames := 1, cells := 0, slots := 0, locals := 22 } cX5_best wsX5_best RX5 3 κ := hC
  refine v_args (lv' := [(0, .int m), (1, .int r)]) rfl ?_
  refine v_iconst (v := 1) hC dX5_best_0 (by decide) ?_
  refine v_istore_n (lv' := [(2, .int 1), (0, .int m), (1, .int r)]) hC dX5_best_1 (by decide) rfl ?_
  refine v_iconst (v := 2) hC dX5_best_2 (by decide) ?_
  refine v_iload_n hC dX5_best_3 1 rfl ?_
  refine v_iload_n hC dX5_best_4 2 rfl ?_
  refine v_callSr (v := .int (bI (holdsI 2 m r))) (C2 := CC Λ X Y) (As := [.int 2, .int m, .int r]) (rest := []) hC 3 (c_X5_holds Λ X Y (k := 2) (m := m) (r := r)) gX5_best_X5_holds rfl rfl rfl hd_X5_holds ⟨by decide, by decide⟩ rfl rfl (Nat.le_of_ble_eq_true rfl) dX5_best_5 ?_
  refine v_beq (b := holdsI 2 m r) (tgt := 30) hC dX5_best_8 (by decide) (fun c8 => ?_) (fun c8 => ?_)
  · skip
    refine v_iload_n hC dX5_best_30 0 rfl ?_
    refine v_istore_n (lv' := [(2, .int 1), (0, .int m), (1, .int r)]) hC dX5_best_31 (by decide) rfl ?_
    refine v_iconst (v := 0) hC dX5_best_32 (by decide) ?_
    refine v_iload_n hC dX5_best_33 1 rfl ?_
    refine v_iload_n hC dX5_best_34 2 rfl ?_
    refine v_callSr (v := .int (bI (holdsI 0 m r))) (C2 := CC Λ X Y) (As := [.int 0, .int m, .int r]) (rest := []) hC 3 (c_X5_holds Λ X Y (k := 0) (m := m) (r := r)) gX5_best_X5_holds rfl rfl rfl hd_X5_holds ⟨by decide, by decide⟩ rfl rfl (Nat.le_of_ble_eq_true rfl) dX5_best_35 ?_
    refine v_beq (b := holdsI 0 m r) (tgt := 60) hC dX5_best_38 (by decide) (fun c38 => ?_) (fun c38 => ?_)
    · skip
      refine v_iload_n hC dX5_best_60 0 rfl ?_
      exact v_iret hC hR (congrArg (fun z : Int32 => some (Value.int z)) (by simp [bestI, c8, c38])) rfl dX5_best_61
    · skip
      refine v_iconst (v := 0) hC dX5_best_41 (by decide) ?_
      refine v_iload_n hC dX5_best_42 1 rfl ?_
      refine v_iload_n hC dX5_best_43 2 rfl ?_
      refine v_callSr (v := .int (unitsI 0 m r)) (C2 := CC Λ X Y) (As := [.int 0, .int m, .int r]) (rest := []) hC 3 (c_X5_units Λ X Y (k := 0) (m := m) (r := r)) gX5_best_X5_units rfl rfl rfl hd_X5_units ⟨by decide, by decide⟩ rfl rfl (Nat.le_of_ble_eq_true rfl) dX5_best_44 ?_
      refine v_iload_n hC dX5_best_47 0 rfl ?_
      refine v_iload_n hC dX5_best_48 1 rfl ?_
      refine v_iload_n hC dX5_best_49 2 rfl ?_
      refine v_callSr (v := .int (unitsI 1 m r)) (C2 := CC Λ X Y) (As := [.int 1, .int m, .int r]) (rest := [.int (unitsI 0 m r)]) hC 3 (c_X5_units Λ X Y (k := 1) (m := m) (r := r)) gX5_best_X5_units rfl rfl rfl hd_X5_units ⟨by decide, by decide⟩ rfl rfl (Nat.le_of_ble_eq_true rfl) dX5_best_50 ?_
      refine v_icmp_gt (x := unitsI 0 m r) (y := unitsI 1 m r) (tgt := 60) hC dX5_best_53 (by decide) (fun c53 => ?_) (fun c53 => ?_)
      · have c53' := Int32.not_le.mpr c53
        refine v_iload_n hC dX5_best_60 0 rfl ?_
        exact v_iret hC hR (congrArg (fun z : Int32 => some (Value.int z)) (by simp [bestI, c8, c38, c53, c53'])) rfl dX5_best_61
      · have c53' := Int32.not_lt.mp c53
        refine v_iconst (v := 0) hC dX5_best_56 (by decide) ?_
        refine v_goto (tgt := 61) hC dX5_best_57 (by decide) ?_
        exact v_iret hC hR (congrArg (fun z : Int32 => some (Value.int z)) (by simp [bestI, c8, c38, c53, c53'])) rfl dX5_best_61
  · skip
    refine v_iconst (v := 2) hC dX5_best_11 (by decide) ?_
    refine v_iload_n hC dX5_best_12 1 rfl ?_
    refine v_iload_n hC dX5_best_13 2 rfl ?_
    refine v_callSr (v := .int (unitsI 2 m r)) (C2 := CC Λ X Y) (As := [.int 2, .int m, .int r]) (rest := []) hC 3 (c_X5_units Λ X Y (k := 2) (m := m) (r := r)) gX5_best_X5_units rfl rfl rfl hd_X5_units ⟨by decide, by decide⟩ rfl rfl (Nat.le_of_ble_eq_true rfl) dX5_best_14 ?_
    refine v_iload_n hC dX5_best_17 0 rfl ?_
    refine v_iload_n hC dX5_best_18 1 rfl ?_
    refine v_iload_n hC dX5_best_19 2 rfl ?_
    refine v_callSr (v := .int (unitsI 1 m r)) (C2 := CC Λ X Y) (As := [.int 1, .int m, .int r]) (rest := [.int (unitsI 2 m r)]) hC 3 (c_X5_units Λ X Y (k := 1) (m := m) (r := r)) gX5_best_X5_units rfl rfl rfl hd_X5_units ⟨by decide, by decide⟩ rfl rfl (Nat.le_of_ble_eq_true rfl) dX5_best_20 ?_
    refine v_icmp_ge (x := unitsI 2 m r) (y := unitsI 1 m r) (tgt := 30) hC dX5_best_23 (by decide) (fun c23 => ?_) (fun c23 => ?_)
    · have c23' := Int32.not_lt.mpr c23
      refine v_iload_n hC dX5_best_30 0 rfl ?_
      refine v_istore_n (lv' := [(2, .int 1), (0, .int m), (1, .int r)]) hC dX5_best_31 (by decide) rfl ?_
      refine v_iconst (v := 0) hC dX5_best_32 (by decide) ?_
      refine v_iload_n hC dX5_best_33 1 rfl ?_
      refine v_iload_n hC dX5_best_34 2 rfl ?_
      refine v_callSr (v := .int (bI (holdsI 0 m r))) (C2 := CC Λ X Y) (As := [.int 0, .int m, .int r]) (rest := []) hC 3 (c_X5_holds Λ X Y (k := 0) (m := m) (r := r)) gX5_best_X5_holds rfl rfl rfl hd_X5_holds ⟨by decide, by decide⟩ rfl rfl (Nat.le_of_ble_eq_true rfl) dX5_best_35 ?_
      refine v_beq (b := holdsI 0 m r) (tgt := 60) hC dX5_best_38 (by decide) (fun c38 => ?_) (fun c38 => ?_)
      · skip
        refine v_iload_n hC dX5_best_60 0 rfl ?_
        exact v_iret hC hR (congrArg (fun z : Int32 => some (Value.int z)) (by simp [bestI, c8, c23, c23', c38])) rfl dX5_best_61
      · skip
        refine v_iconst (v := 0) hC dX5_best_41 (by decide) ?_
        refine v_iload_n hC dX5_best_42 1 rfl ?_
        refine v_iload_n hC dX5_best_43 2 rfl ?_
        refine v_callSr (v := .int (unitsI 0 m r)) (C2 := CC Λ X Y) (As := [.int 0, .int m, .int r]) (rest := []) hC 3 (c_X5_units Λ X Y (k := 0) (m := m) (r := r)) gX5_best_X5_units rfl rfl rfl hd_X5_units ⟨by decide, by decide⟩ rfl rfl (Nat.le_of_ble_eq_true rfl) dX5_best_44 ?_
        refine v_iload_n hC dX5_best_47 0 rfl ?_
        refine v_iload_n hC dX5_best_48 1 rfl ?_
        refine v_iload_n hC dX5_best_49 2 rfl ?_
        refine v_callSr (v := .int (unitsI 1 m r)) (C2 := CC Λ X Y) (As := [.int 1, .int m, .int r]) (rest := [.int (unitsI 0 m r)]) hC 3 (c_X5_units Λ X Y (k := 1) (m := m) (r := r)) gX5_best_X5_units rfl rfl rfl hd_X5_units ⟨by decide, by decide⟩ rfl rfl (Nat.le_of_ble_eq_true rfl) dX5_best_50 ?_
        refine v_icmp_gt (x := unitsI 0 m r) (y := unitsI 1 m r) (tgt := 60) hC dX5_best_53 (by decide) (fun c53 => ?_) (fun c53 => ?_)
        · have c53' := Int32.not_le.mpr c53
          refine v_iload_n hC dX5_best_60 0 rfl ?_
          exact v_iret hC hR (congrArg (fun z : Int32 => some (Value.int z)) (by simp [bestI, c8, c23, c23', c38, c53, c53'])) rfl dX5_best_61
        · have c53' := Int32.not_lt.mp c53
          refine v_iconst (v := 0) hC dX5_best_56 (by decide) ?_
          refine v_goto (tgt := 61) hC dX5_best_57 (by decide) ?_
          exact v_iret hC hR (congrArg (fun z : Int32 => some (Value.int z)) (by simp [bestI, c8, c23, c23', c38, c53, c53'])) rfl dX5_best_61
    · have c23' := Int32.not_le.mp c23
      refine v_iconst (v := 2) hC dX5_best_26 (by decide) ?_
      refine v_goto (tgt := 31) hC dX5_best_27 (by decide) ?_
      refine v_istore_n (lv' := [(2, .int 2), (0, .int m), (1, .int r)]) hC dX5_best_31 (by decide) rfl ?_
      refine v_iconst (v := 0) hC dX5_best_32 (by decide) ?_
      refine v_iload_n hC dX5_best_33 1 rfl ?_
      refine v_iload_n hC dX5_best_34 2 rfl ?_
      refine v_callSr (v := .int (bI (holdsI 0 m r))) (C2 := CC Λ X Y) (As := [.int 0, .int m, .int r]) (rest := []) hC 3 (c_X5_holds Λ X Y (k := 0) (m := m) (r := r)) gX5_best_X5_holds rfl rfl rfl hd_X5_holds ⟨by decide, by decide⟩ rfl rfl (Nat.le_of_ble_eq_true rfl) dX5_best_35 ?_
      refine v_beq (b := holdsI 0 m r) (tgt := 60) hC dX5_best_38 (by decide) (fun c38 => ?_) (fun c38 => ?_)
      · skip
        refine v_iload_n hC dX5_best_60 0 rfl ?_
        exact v_iret hC hR (congrArg (fun z : Int32 => some (Value.int z)) (by simp [bestI, c8, c23, c23', c38])) rfl dX5_best_61
      · skip
        refine v_iconst (v := 0) hC dX5_best_41 (by decide) ?_
        refine v_iload_n hC dX5_best_42 1 rfl ?_
        refine v_iload_n hC dX5_best_43 2 rfl ?_
        refine v_callSr (v := .int (unitsI 0 m r)) (C2 := CC Λ X Y) (As := [.int 0, .int m, .int r]) (rest := []) hC 3 (c_X5_units Λ X Y (k := 0) (m := m) (r := r)) gX5_best_X5_units rfl rfl rfl hd_X5_units ⟨by decide, by decide⟩ rfl rfl (Nat.le_of_ble_eq_true rfl) dX5_best_44 ?_
        refine v_iload_n hC dX5_best_47 0 rfl ?_
        refine v_iload_n hC dX5_best_48 1 rfl ?_
        refine v_iload_n hC dX5_best_49 2 rfl ?_
        refine v_callSr (v := .int (unitsI 2 m r)) (C2 := CC Λ X Y) (As := [.int 2, .int m, .int r]) (rest := [.int (unitsI 0 m r)]) hC 3 (c_X5_units Λ X Y (k := 2) (m := m) (r := r)) gX5_best_X5_units rfl rfl rfl hd_X5_units ⟨by decide, by decide⟩ rfl rfl (Nat.le_of_ble_eq_true rfl) dX5_best_50 ?_
        refine v_icmp_gt (x := unitsI 0 m r) (y := unitsI 2 m r) (tgt := 60) hC dX5_best_53 (by decide) (fun c53 => ?_) (fun c53 => ?_)
        · have c53' := Int32.not_le.mpr c53
          refine v_iload_n hC dX5_best_60 0 rfl ?_
          exact v_iret hC hR (congrArg (fun z : Int32 => some (Value.int z)) (by simp [bestI, c8, c23, c23', c38, c53, c53'])) rfl dX5_best_61
        · have c53' := Int32.not_lt.mp c53
          refine v_iconst (v := 0) hC dX5_best_56 (by decide) ?_
          refine v_goto (tgt := 61) hC dX5_best_57 (by decide) ?_
          exact v_iret hC hR (congrArg (fun z : Int32 => some (Value.int z)) (by simp [bestI, c8, c23, c23', c38, c53, c53'])) rfl dX5_best_61

theorem hd_X5_unitsOf : yX5_unitsOf.cls = RX5 ∧ yX5_unitsOf.cls ≠ "java/lang/invoke/MethodHandle" ∧ yX5_unitsOf.cls ≠ "java/lang/invoke/VarHandle" ∧ (parseMethodDescriptor yX5_unitsOf.desc).map (fun d => d.parameters.length) = some 2 := by decide +kernel
set_option maxHeartbeats 400000 in
set_option maxRecDepth 100000 in
theorem c_X5_unitsOf (Λ : Lk) (X : XS) (Y : YS) {s : Nat} {b : Nat} (hs : s < 6) (hb : b < 8) : Con Λ yX5_unitsOf wsX5_unitsOf { frames := 3, cells := 0, slots := 0, locals := 68 } [rf Λ 204, .int (nI s), .int (nI b)] (CC Λ X Y) (some (.int (unitsN (yn Y) s b))) (CC Λ X Y) := by
  refine con_start (cc := cX5_unitsOf) (maxL := 3) (ret := (some .int)) (by decide) rfl (Nat.le_of_ble_eq_true rfl) ?_
  intro κ hC hR
  have hC : Ok Λ { frames := 3, cells := 0, slots := 0, locals := 68 } cX5_unitsOf wsX5_unitsOf RX5 3 κ := hC
  refine v_args (lv' := [(0, rf Λ 204), (1, .int (nI s)), (2, .int (nI b))]) rfl ?_
  refine v_aload_n hC dX5_unitsOf_0 0 rfl ?_
  refine v_iload_n hC dX5_unitsOf_1 1 rfl ?_
  refine v_iload_n hC dX5_unitsOf_2 2 rfl ?_
  refine v_callVr (v := .int (kindN (yn Y) s b)) (C2 := CC Λ X Y) (As := [.int (nI s), .int (nI b)]) (rest := []) hC 2 204 (c_X5_kindOf Λ X Y (s := s) (b := b) (by omega) (by omega)) (nR_of (by decide)) (cc_204 Λ X Y) rfl gX5_unitsOf_X5_kindOf rfl rfl rfl hd_X5_kindOf ⟨by decide, by decide⟩ rfl rfl (Nat.le_of_ble_eq_true rfl) dX5_unitsOf_3 ?_
  refine v_aload_n hC dX5_unitsOf_6 0 rfl ?_
  refine v_iload_n hC dX5_unitsOf_7 1 rfl ?_
  refine v_iload_n hC dX5_unitsOf_8 2 rfl ?_
  refine v_callVr (v := .int (nI (manyN (yn Y) s b))) (C2 := CC Λ X Y) (As := [.int (nI s), .int (nI b)]) (rest := [.int (kindN (yn Y) s b)]) hC 2 204 (c_X5_manyIn Λ X Y (s := s) (b := b) (by omega) (by omega)) (nR_of (by decide)) (cc_204 Λ X Y) rfl gX5_unitsOf_X5_manyIn rfl rfl rfl hd_X5_manyIn ⟨by decide, by decide⟩ rfl rfl (Nat.le_of_ble_eq_true rfl) dX5_unitsOf_9 ?_
  have hm9 := manyN_le (yn Y) s b
  refine v_aload_n hC dX5_unitsOf_12 0 rfl ?_
  refine v_iload_n hC dX5_unitsOf_13 1 rfl ?_
  refine v_iload_n hC dX5_unitsOf_14 2 rfl ?_
  refine v_callVr (v := .int (nI (runsN (yn Y) s b))) (C2 := CC Λ X Y) (As := [.int (nI s), .int (nI b)]) (rest := [.int (nI (manyN (yn Y) s b)), .int (kindN (yn Y) s b)]) hC 2 204 (c_X5_runsIn Λ X Y (s := s) (b := b) (by omega) (by omega)) (nR_of (by decide)) (cc_204 Λ X Y) rfl gX5_unitsOf_X5_runsIn rfl rfl rfl hd_X5_runsIn ⟨by decide, by decide⟩ rfl rfl (Nat.le_of_ble_eq_true rfl) dX5_unitsOf_15 ?_
  have hm15 := runsN_le (yn Y) s b
  refine v_callSr (v := .int (unitsI (kindN (yn Y) s b) (nI (manyN (yn Y) s b)) (nI (runsN (yn Y) s b)))) (C2 := CC Λ X Y) (As := [.int (kindN (yn Y) s b), .int (nI (manyN (yn Y) s b)), .int (nI (runsN (yn Y) s b))]) (rest := []) hC 3 (c_X5_units Λ X Y (k := kindN (yn Y) s b) (m := nI (manyN (yn Y) s b)) (r := nI (runsN (yn Y) s b))) gX5_unitsOf_X5_units rfl rfl rfl hd_X5_units ⟨by decide, by decide⟩ rfl rfl (Nat.le_of_ble_eq_true rfl) dX5_unitsOf_18 ?_
  exact v_iret hC hR rfl rfl dX5_unitsOf_21

theorem hd_X5_bestOf : yX5_bestOf.cls = RX5 ∧ yX5_bestOf.cls ≠ "java/lang/invoke/MethodHandle" ∧ yX5_bestOf.cls ≠ "java/lang/invoke/VarHandle" ∧ (parseMethodDescriptor yX5_bestOf.desc).map (fun d => d.parameters.length) = some 2 := by decide +kernel
set_option maxHeartbeats 400000 in
set_option maxRecDepth 100000 in
theorem c_X5_bestOf (Λ : Lk) (X : XS) (Y : YS) {s : Nat} {b : Nat} (hs : s < 6) (hb : b < 8) : Con Λ yX5_bestOf wsX5_bestOf { frames := 3, cells := 0, slots := 0, locals := 68 } [rf Λ 204, .int (nI s), .int (nI b)] (CC Λ X Y) (some (.int (bestN (yn Y) s b))) (CC Λ X Y) := by
  refine con_start (cc := cX5_bestOf) (maxL := 3) (ret := (some .int)) (by decide) rfl (Nat.le_of_ble_eq_true rfl) ?_
  intro κ hC hR
  have hC : Ok Λ { frames := 3, cells := 0, slots := 0, locals := 68 } cX5_bestOf wsX5_bestOf RX5 3 κ := hC
  refine v_args (lv' := [(0, rf Λ 204), (1, .int (nI s)), (2, .int (nI b))]) rfl ?_
  refine v_aload_n hC dX5_bestOf_0 0 rfl ?_
  refine v_iload_n hC dX5_bestOf_1 1 rfl ?_
  refine v_iload_n hC dX5_bestOf_2 2 rfl ?_
  refine v_callVr (v := .int (nI (manyN (yn Y) s b))) (C2 := CC Λ X Y) (As := [.int (nI s), .int (nI b)]) (rest := []) hC 2 204 (c_X5_manyIn Λ X Y (s := s) (b := b) (by omega) (by omega)) (nR_of (by decide)) (cc_204 Λ X Y) rfl gX5_bestOf_X5_manyIn rfl rfl rfl hd_X5_manyIn ⟨by decide, by decide⟩ rfl rfl (Nat.le_of_ble_eq_true rfl) dX5_bestOf_3 ?_
  have hm3 := manyN_le (yn Y) s b
  refine v_aload_n hC dX5_bestOf_6 0 rfl ?_
  refine v_iload_n hC dX5_bestOf_7 1 rfl ?_
  refine v_iload_n hC dX5_bestOf_8 2 rfl ?_
  refine v_callVr (v := .int (nI (runsN (yn Y) s b))) (C2 := CC Λ X Y) (As := [.int (nI s), .int (nI b)]) (rest := [.int (nI (manyN (yn Y) s b))]) hC 2 204 (c_X5_runsIn Λ X Y (s := s) (b := b) (by omega) (by omega)) (nR_of (by decide)) (cc_204 Λ X Y) rfl gX5_bestOf_X5_runsIn rfl rfl rfl hd_X5_runsIn ⟨by decide, by decide⟩ rfl rfl (Nat.le_of_ble_eq_true rfl) dX5_bestOf_9 ?_
  have hm9 := runsN_le (yn Y) s b
  refine v_callSr (v := .int (bestI (nI (manyN (yn Y) s b)) (nI (runsN (yn Y) s b)))) (C2 := CC Λ X Y) (As := [.int (nI (manyN (yn Y) s b)), .int (nI (runsN (yn Y) s b))]) (rest := []) hC 2 (c_X5_best Λ X Y (m := nI (manyN (yn Y) s b)) (r := nI (runsN (yn Y) s b))) gX5_bestOf_X5_best rfl rfl rfl hd_X5_best ⟨by decide, by decide⟩ rfl rfl (Nat.le_of_ble_eq_true rfl) dX5_bestOf_12 ?_
  exact v_iret hC hR rfl rfl dX5_bestOf_15

theorem hd_X5_tollOf : yX5_tollOf.cls = RX5 ∧ yX5_tollOf.cls ≠ "java/lang/invoke/MethodHandle" ∧ yX5_tollOf.cls ≠ "java/lang/invoke/VarHandle" ∧ (parseMethodDescriptor yX5_tollOf.desc).map (fun d => d.parameters.length) = some 2 := by decide +kernel
set_option maxHeartbeats 400000 in
set_option maxRecDepth 100000 in
theorem c_X5_tollOf (Λ : Lk) (X : XS) (Y : YS) {s : Nat} {b : Nat} (hs : s < 6) (hb : b < 8) : Con Λ yX5_tollOf wsX5_tollOf { frames := 4, cells := 0, slots := 0, locals := 90 } [rf Λ 204, .int (nI s), .int (nI b)] (CC Λ X Y) (some (.int (tollN (yn Y) s b))) (CC Λ X Y) := by
  refine con_start (cc := cX5_tollOf) (maxL := 4) (ret := (some .int)) (by decide) rfl (Nat.le_of_ble_eq_true rfl) ?_
  intro κ hC hR
  have hC : Ok Λ { frames := 4, cells := 0, slots := 0, locals := 90 } cX5_tollOf wsX5_tollOf RX5 4 κ := hC
  refine v_args (lv' := [(0, rf Λ 204), (1, .int (nI s)), (2, .int (nI b))]) rfl ?_
  refine v_aload_n hC dX5_tollOf_0 0 rfl ?_
  refine v_iload_n hC dX5_tollOf_1 1 rfl ?_
  refine v_iload_n hC dX5_tollOf_2 2 rfl ?_
  refine v_callVr (v := .int (bestN (yn Y) s b)) (C2 := CC Λ X Y) (As := [.int (nI s), .int (nI b)]) (rest := []) hC 2 204 (c_X5_bestOf Λ X Y (s := s) (b := b) (by omega) (by omega)) (nR_of (by decide)) (cc_204 Λ X Y) rfl gX5_tollOf_X5_bestOf rfl rfl rfl hd_X5_bestOf ⟨by decide, by decide⟩ rfl rfl (Nat.le_of_ble_eq_true rfl) dX5_tollOf_3 ?_
  refine v_istore_n (lv' := [(3, .int (bestN (yn Y) s b)), (0, rf Λ 204), (1, .int (nI s)), (2, .int (nI b))]) hC dX5_tollOf_6 (by decide) rfl ?_
  refine v_iload_n hC dX5_tollOf_7 0 rfl ?_
  refine v_aload_n hC dX5_tollOf_8 1 rfl ?_
  refine v_iload_n hC dX5_tollOf_9 2 rfl ?_
  refine v_iload_n hC dX5_tollOf_10 3 rfl ?_
  refine v_callVr (v := .int (kindN (yn Y) s b)) (C2 := CC Λ X Y) (As := [.int (nI s), .int (nI b)]) (rest := [.int (bestN (yn Y) s b)]) hC 2 204 (c_X5_kindOf Λ X Y (s := s) (b := b) (by omega) (by omega)) (nR_of (by decide)) (cc_204 Λ X Y) rfl gX5_tollOf_X5_kindOf rfl rfl rfl hd_X5_kindOf ⟨by decide, by decide⟩ rfl rfl (Nat.le_of_ble_eq_true rfl) dX5_tollOf_11 ?_
  refine v_icmp_ne (x := bestN (yn Y) s b) (y := kindN (yn Y) s b) (tgt := 21) hC dX5_tollOf_14 (by decide) (fun c14 => ?_) (fun c14 => ?_)
  · skip
    refine v_iload_n hC dX5_tollOf_21 0 rfl ?_
    refine v_aload_n hC dX5_tollOf_22 1 rfl ?_
    refine v_iload_n hC dX5_tollOf_23 2 rfl ?_
    refine v_iload_n hC dX5_tollOf_24 3 rfl ?_
    refine v_callVr (v := .int (nI (manyN (yn Y) s b))) (C2 := CC Λ X Y) (As := [.int (nI s), .int (nI b)]) (rest := [.int (bestN (yn Y) s b)]) hC 2 204 (c_X5_manyIn Λ X Y (s := s) (b := b) (by omega) (by omega)) (nR_of (by decide)) (cc_204 Λ X Y) rfl gX5_tollOf_X5_manyIn rfl rfl rfl hd_X5_manyIn ⟨by decide, by decide⟩ rfl rfl (Nat.le_of_ble_eq_true rfl) dX5_tollOf_25 ?_
    have hm25 := manyN_le (yn Y) s b
    refine v_aload_n hC dX5_tollOf_28 1 rfl ?_
    refine v_iload_n hC dX5_tollOf_29 2 rfl ?_
    refine v_iload_n hC dX5_tollOf_30 3 rfl ?_
    refine v_callVr (v := .int (nI (runsN (yn Y) s b))) (C2 := CC Λ X Y) (As := [.int (nI s), .int (nI b)]) (rest := [.int (nI (manyN (yn Y) s b)), .int (bestN (yn Y) s b)]) hC 2 204 (c_X5_runsIn Λ X Y (s := s) (b := b) (by omega) (by omega)) (nR_of (by decide)) (cc_204 Λ X Y) rfl gX5_tollOf_X5_runsIn rfl rfl rfl hd_X5_runsIn ⟨by decide, by decide⟩ rfl rfl (Nat.le_of_ble_eq_true rfl) dX5_tollOf_31 ?_
    have hm31 := runsN_le (yn Y) s b
    refine v_callSr (v := .int (unitsI (bestN (yn Y) s b) (nI (manyN (yn Y) s b)) (nI (runsN (yn Y) s b)))) (C2 := CC Λ X Y) (As := [.int (bestN (yn Y) s b), .int (nI (manyN (yn Y) s b)), .int (nI (runsN (yn Y) s b))]) (rest := []) hC 3 (c_X5_units Λ X Y (k := bestN (yn Y) s b) (m := nI (manyN (yn Y) s b)) (r := nI (runsN (yn Y) s b))) gX5_tollOf_X5_units rfl rfl rfl hd_X5_units ⟨by decide, by decide⟩ rfl rfl (Nat.le_of_ble_eq_true rfl) dX5_tollOf_34 ?_
    exact v_iret hC hR (congrArg (fun z : Int32 => some (Value.int z)) (by simp [tollN, c14])) rfl dX5_tollOf_37
  · skip
    refine v_iconst (v := 0) hC dX5_tollOf_17 (by decide) ?_
    refine v_goto (tgt := 37) hC dX5_tollOf_18 (by decide) ?_
    exact v_iret hC hR (congrArg (fun z : Int32 => some (Value.int z)) (by simp [tollN, c14])) rfl dX5_tollOf_37

theorem hd_X5_becomes : yX5_becomes.cls = RX5 ∧ yX5_becomes.cls ≠ "java/lang/invoke/MethodHandle" ∧ yX5_becomes.cls ≠ "java/lang/invoke/VarHandle" ∧ (parseMethodDescriptor yX5_becomes.desc).map (fun d => d.parameters.length) = some 2 := by decide +kernel
set_option maxHeartbeats 400000 in
set_option maxRecDepth 100000 in
theorem c_X5_becomes (Λ : Lk) (X : XS) (Y : YS) {s : Nat} {b : Nat} (hs : s < 6) (hb : b < 8) : Con Λ yX5_becomes wsX5_becomes { frames := 5, cells := 0, slots := 0, locals := 113 } [rf Λ 204, .int (nI s), .int (nI b)] (CC Λ X Y) none (CC Λ X (ynS Y (becomesN (yn Y) s b))) := by
  refine con_start (cc := cX5_becomes) (maxL := 4) (ret := none) (by decide) rfl (Nat.le_of_ble_eq_true rfl) ?_
  intro κ hC hR
  have hC : Ok Λ { frames := 5, cells := 0, slots := 0, locals := 113 } cX5_becomes wsX5_becomes RX5 4 κ := hC
  refine v_args (lv' := [(0, rf Λ 204), (1, .int (nI s)), (2, .int (nI b))]) rfl ?_
  refine v_aload_n hC dX5_becomes_0 0 rfl ?_
  refine v_iload_n hC dX5_becomes_1 1 rfl ?_
  refine v_iload_n hC dX5_becomes_2 2 rfl ?_
  refine v_callVr (v := .int (tollN (yn Y) s b)) (C2 := CC Λ X Y) (As := [.int (nI s), .int (nI b)]) (rest := []) hC 2 204 (c_X5_tollOf Λ X Y (s := s) (b := b) (by omega) (by omega)) (nR_of (by decide)) (cc_204 Λ X Y) rfl gX5_becomes_X5_tollOf rfl rfl rfl hd_X5_tollOf ⟨by decide, by decide⟩ rfl rfl (Nat.le_of_ble_eq_true rfl) dX5_becomes_3 ?_
  refine v_istore_n (lv' := [(3, .int (tollN (yn Y) s b)), (0, rf Λ 204), (1, .int (nI s)), (2, .int (nI b))]) hC dX5_becomes_6 (by decide) rfl ?_
  refine v_aload_n hC dX5_becomes_7 1 rfl ?_
  refine v_iload_n hC dX5_becomes_8 2 rfl ?_
  refine v_iconst (v := 3) hC dX5_becomes_9 (by decide) ?_
  refine v_iload_n hC dX5_becomes_10 3 rfl ?_
  refine v_iadd (x := 3) (y := nI b) hC dX5_becomes_11 ?_
  refine v_topi (y := nI (3 + b)) (nI_add 3 b) ?_
  refine v_aload_n hC dX5_becomes_12 1 rfl ?_
  refine v_iload_n hC dX5_becomes_13 2 rfl ?_
  refine v_iload_n hC dX5_becomes_14 3 rfl ?_
  refine v_callVr (v := .int (bestN (yn Y) s b)) (C2 := CC Λ X Y) (As := [.int (nI s), .int (nI b)]) (rest := [.int (nI (3 + b)), .int (nI s), rf Λ 204]) hC 2 204 (c_X5_bestOf Λ X Y (s := s) (b := b) (by omega) (by omega)) (nR_of (by decide)) (cc_204 Λ X Y) rfl gX5_becomes_X5_bestOf rfl rfl rfl hd_X5_bestOf ⟨by decide, by decide⟩ rfl rfl (Nat.le_of_ble_eq_true rfl) dX5_becomes_15 ?_
  refine v_iconst (v := 1) hC dX5_becomes_18 (by decide) ?_
  refine v_iadd (x := bestN (yn Y) s b) (y := 1) hC dX5_becomes_19 ?_
  refine v_callVv (C2 := CC Λ X (ynS Y (layN (yn Y) s (3 + b) ((bestN (yn Y) s b) + 1)))) (As := [.int (nI s), .int (nI (3 + b)), .int ((bestN (yn Y) s b) + 1)]) (rest := []) hC 3 204 (c_X5_lays Λ X Y (s := s) (w := 3 + b) (v := (bestN (yn Y) s b) + 1) (by omega) (by omega)) (nR_of (by decide)) (cc_204 Λ X Y) rfl gX5_becomes_X5_lays rfl rfl rfl hd_X5_lays ⟨by decide, by decide⟩ rfl rfl (Nat.le_of_ble_eq_true rfl) dX5_becomes_20 ?_
  refine v_aload_n hC dX5_becomes_23 1 rfl ?_
  refine v_iload_n hC dX5_becomes_24 2 rfl ?_
  refine v_iconst (v := 0) hC dX5_becomes_25 (by decide) ?_
  refine v_aload_n hC dX5_becomes_26 1 rfl ?_
  refine v_iload_n hC dX5_becomes_27 2 rfl ?_
  refine v_iconst (v := 0) hC dX5_becomes_28 (by decide) ?_
  refine v_callVr (v := .int (ofN (layN (yn Y) s (3 + b) ((bestN (yn Y) s b) + 1)) s 0)) (C2 := CC Λ X (ynS Y (layN (yn Y) s (3 + b) ((bestN (yn Y) s b) + 1)))) (As := [.int (nI s), .int 0]) (rest := [.int 0, .int (nI s), rf Λ 204]) hC 2 204 (c_X5_of Λ X (ynS Y (layN (yn Y) s (3 + b) ((bestN (yn Y) s b) + 1))) (s := s) (w := 0) (by omega) (by omega)) (nR_of (by decide)) (cc_204 Λ X (ynS Y (layN (yn Y) s (3 + b) ((bestN (yn Y) s b) + 1)))) rfl gX5_becomes_X5_of rfl rfl rfl hd_X5_of ⟨by decide, by decide⟩ rfl rfl (Nat.le_of_ble_eq_true rfl) dX5_becomes_29 ?_
  refine v_iload_n hC dX5_becomes_32 0 rfl ?_
  refine v_isub (x := ofN (layN (yn Y) s (3 + b) ((bestN (yn Y) s b) + 1)) s 0) (y := tollN (yn Y) s b) hC dX5_becomes_33 ?_
  refine v_callVv (C2 := CC Λ X (ynS (ynS Y (layN (yn Y) s (3 + b) ((bestN (yn Y) s b) + 1))) (layN (layN (yn Y) s (3 + b) ((bestN (yn Y) s b) + 1)) s 0 ((ofN (layN (yn Y) s (3 + b) ((bestN (yn Y) s b) + 1)) s 0) - (tollN (yn Y) s b))))) (As := [.int (nI s), .int 0, .int ((ofN (layN (yn Y) s (3 + b) ((bestN (yn Y) s b) + 1)) s 0) - (tollN (yn Y) s b))]) (rest := []) hC 3 204 (c_X5_lays Λ X (ynS Y (layN (yn Y) s (3 + b) ((bestN (yn Y) s b) + 1))) (s := s) (w := 0) (v := (ofN (layN (yn Y) s (3 + b) ((bestN (yn Y) s b) + 1)) s 0) - (tollN (yn Y) s b)) (by omega) (by omega)) (nR_of (by decide)) (cc_204 Λ X (ynS Y (layN (yn Y) s (3 + b) ((bestN (yn Y) s b) + 1)))) rfl gX5_becomes_X5_lays rfl rfl rfl hd_X5_lays ⟨by decide, by decide⟩ rfl rfl (Nat.le_of_ble_eq_true rfl) dX5_becomes_34 ?_
  refine v_aload_n hC dX5_becomes_37 1 rfl ?_
  refine v_iload_n hC dX5_becomes_38 2 rfl ?_
  refine v_iconst (v := 2) hC dX5_becomes_39 (by decide) ?_
  refine v_aload_n hC dX5_becomes_40 1 rfl ?_
  refine v_iload_n hC dX5_becomes_41 2 rfl ?_
  refine v_iconst (v := 2) hC dX5_becomes_42 (by decide) ?_
  refine v_callVr (v := .int (ofN (layN (layN (yn Y) s (3 + b) ((bestN (yn Y) s b) + 1)) s 0 ((ofN (layN (yn Y) s (3 + b) ((bestN (yn Y) s b) + 1)) s 0) - (tollN (yn Y) s b))) s 2)) (C2 := CC Λ X (ynS (ynS Y (layN (yn Y) s (3 + b) ((bestN (yn Y) s b) + 1))) (layN (layN (yn Y) s (3 + b) ((bestN (yn Y) s b) + 1)) s 0 ((ofN (layN (yn Y) s (3 + b) ((bestN (yn Y) s b) + 1)) s 0) - (tollN (yn Y) s b))))) (As := [.int (nI s), .int 2]) (rest := [.int 2, .int (nI s), rf Λ 204]) hC 2 204 (c_X5_of Λ X (ynS (ynS Y (layN (yn Y) s (3 + b) ((bestN (yn Y) s b) + 1))) (layN (layN (yn Y) s (3 + b) ((bestN (yn Y) s b) + 1)) s 0 ((ofN (layN (yn Y) s (3 + b) ((bestN (yn Y) s b) + 1)) s 0) - (tollN (yn Y) s b)))) (s := s) (w := 2) (by omega) (by omega)) (nR_of (by decide)) (cc_204 Λ X (ynS (ynS Y (layN (yn Y) s (3 + b) ((bestN (yn Y) s b) + 1))) (layN (layN (yn Y) s (3 + b) ((bestN (yn Y) s b) + 1)) s 0 ((ofN (layN (yn Y) s (3 + b) ((bestN (yn Y) s b) + 1)) s 0) - (tollN (yn Y) s b))))) rfl gX5_becomes_X5_of rfl rfl rfl hd_X5_of ⟨by decide, by decide⟩ rfl rfl (Nat.le_of_ble_eq_true rfl) dX5_becomes_43 ?_
  refine v_iload_n hC dX5_becomes_46 0 rfl ?_
  refine v_iadd (x := ofN (layN (layN (yn Y) s (3 + b) ((bestN (yn Y) s b) + 1)) s 0 ((ofN (layN (yn Y) s (3 + b) ((bestN (yn Y) s b) + 1)) s 0) - (tollN (yn Y) s b))) s 2) (y := tollN (yn Y) s b) hC dX5_becomes_47 ?_
  refine v_callVv (C2 := CC Λ X (ynS (ynS (ynS Y (layN (yn Y) s (3 + b) ((bestN (yn Y) s b) + 1))) (layN (layN (yn Y) s (3 + b) ((bestN (yn Y) s b) + 1)) s 0 ((ofN (layN (yn Y) s (3 + b) ((bestN (yn Y) s b) + 1)) s 0) - (tollN (yn Y) s b)))) (layN (layN (layN (yn Y) s (3 + b) ((bestN (yn Y) s b) + 1)) s 0 ((ofN (layN (yn Y) s (3 + b) ((bestN (yn Y) s b) + 1)) s 0) - (tollN (yn Y) s b))) s 2 ((ofN (layN (layN (yn Y) s (3 + b) ((bestN (yn Y) s b) + 1)) s 0 ((ofN (layN (yn Y) s (3 + b) ((bestN (yn Y) s b) + 1)) s 0) - (tollN (yn Y) s b))) s 2) + (tollN (yn Y) s b))))) (As := [.int (nI s), .int 2, .int ((ofN (layN (layN (yn Y) s (3 + b) ((bestN (yn Y) s b) + 1)) s 0 ((ofN (layN (yn Y) s (3 + b) ((bestN (yn Y) s b) + 1)) s 0) - (tollN (yn Y) s b))) s 2) + (tollN (yn Y) s b))]) (rest := []) hC 3 204 (c_X5_lays Λ X (ynS (ynS Y (layN (yn Y) s (3 + b) ((bestN (yn Y) s b) + 1))) (layN (layN (yn Y) s (3 + b) ((bestN (yn Y) s b) + 1)) s 0 ((ofN (layN (yn Y) s (3 + b) ((bestN (yn Y) s b) + 1)) s 0) - (tollN (yn Y) s b)))) (s := s) (w := 2) (v := (ofN (layN (layN (yn Y) s (3 + b) ((bestN (yn Y) s b) + 1)) s 0 ((ofN (layN (yn Y) s (3 + b) ((bestN (yn Y) s b) + 1)) s 0) - (tollN (yn Y) s b))) s 2) + (tollN (yn Y) s b)) (by omega) (by omega)) (nR_of (by decide)) (cc_204 Λ X (ynS (ynS Y (layN (yn Y) s (3 + b) ((bestN (yn Y) s b) + 1))) (layN (layN (yn Y) s (3 + b) ((bestN (yn Y) s b) + 1)) s 0 ((ofN (layN (yn Y) s (3 + b) ((bestN (yn Y) s b) + 1)) s 0) - (tollN (yn Y) s b))))) rfl gX5_becomes_X5_lays rfl rfl rfl hd_X5_lays ⟨by decide, by decide⟩ rfl rfl (Nat.le_of_ble_eq_true rfl) dX5_becomes_48 ?_
  exact v_vret hC hR rfl rfl dX5_becomes_51

theorem hd_X5_puts : yX5_puts.cls = RX5 ∧ yX5_puts.cls ≠ "java/lang/invoke/MethodHandle" ∧ yX5_puts.cls ≠ "java/lang/invoke/VarHandle" ∧ (parseMethodDescriptor yX5_puts.desc).map (fun d => d.parameters.length) = some 3 := by decide +kernel
set_option maxHeartbeats 400000 in
set_option maxRecDepth 100000 in
theorem c_X5_puts (Λ : Lk) (X : XS) (Y : YS) {s : Nat} {n : Nat} {is : Bool} (hs : s < 6) (hn : n < 2048) : Con Λ yX5_puts wsX5_puts { frames := 1, cells := 0, slots := 0, locals := 23 } [rf Λ 204, .int (nI s), .int (nI n), .int (bI is)] (CC Λ X Y) none (CC Λ X (ynS Y (putN (yn Y) s n is))) := by
  refine con_start (cc := cX5_puts) (maxL := 6) (ret := none) (by decide) rfl (Nat.le_of_ble_eq_true rfl) ?_
  intro κ hC hR
  have hC : Ok Λ { frames := 1, cells := 0, slots := 0, locals := 23 } cX5_puts wsX5_puts RX5 6 κ := hC
  refine v_args (lv' := [(0, rf Λ 204), (1, .int (nI s)), (2, .int (nI n)), (3, .int (bI is))]) rfl ?_
  refine v_iconst (v := 1) hC dX5_puts_0 (by decide) ?_
  refine v_iload_n hC dX5_puts_1 2 rfl ?_
  refine v_bipush (v := 32) hC dX5_puts_2 (by decide) ?_
  refine v_irem (x := nI n) (y := 32) hC dX5_puts_4 (by decide) ?_
  refine v_topi (y := nI (n % 32)) (pk_rem (a := n) (d := 32) (by omega) (by decide) (by decide)) ?_
  refine v_ishl (x := 1) (y := nI (n % 32)) hC dX5_puts_5 ?_
  refine v_istore (lv' := [(4, .int (1 <<< ((nI (n % 32)) &&& 31))), (0, rf Λ 204), (1, .int (nI s)), (2, .int (nI n)), (3, .int (bI is))]) hC dX5_puts_6 (by decide) rfl ?_
  refine v_aload_n hC dX5_puts_8 1 rfl ?_
  refine v_iload_n hC dX5_puts_9 2 rfl ?_
  refine v_bipush (v := 11) hC dX5_puts_10 (by decide) ?_
  refine v_iload_n hC dX5_puts_12 3 rfl ?_
  refine v_bipush (v := 32) hC dX5_puts_13 (by decide) ?_
  refine v_idiv (x := nI n) (y := 32) hC dX5_puts_15 (by decide) ?_
  refine v_topi (y := nI (n / 32)) (pk_div (a := n) (d := 32) (by omega) (by decide) (by decide)) ?_
  refine v_iadd (x := 11) (y := nI (n / 32)) hC dX5_puts_16 ?_
  refine v_topi (y := nI (11 + (n / 32))) (nI_add 11 (n / 32)) ?_
  refine v_callVr (v := .int (ofN (yn Y) s (11 + (n / 32)))) (C2 := CC Λ X Y) (As := [.int (nI s), .int (nI (11 + (n / 32)))]) (rest := []) hC 2 204 (c_X5_of Λ X Y (s := s) (w := 11 + (n / 32)) (by omega) (by omega)) (nR_of (by decide)) (cc_204 Λ X Y) rfl gX5_puts_X5_of rfl rfl rfl hd_X5_of ⟨by decide, by decide⟩ rfl rfl (Nat.le_of_ble_eq_true rfl) dX5_puts_17 ?_
  refine v_istore (lv' := [(5, .int (ofN (yn Y) s (11 + (n / 32)))), (4, .int (1 <<< ((nI (n % 32)) &&& 31))), (0, rf Λ 204), (1, .int (nI s)), (2, .int (nI n)), (3, .int (bI is))]) hC dX5_puts_20 (by decide) rfl ?_
  refine v_aload_n hC dX5_puts_22 2 rfl ?_
  refine v_iload_n hC dX5_puts_23 3 rfl ?_
  refine v_bipush (v := 11) hC dX5_puts_24 (by decide) ?_
  refine v_iload_n hC dX5_puts_26 4 rfl ?_
  refine v_bipush (v := 32) hC dX5_puts_27 (by decide) ?_
  refine v_idiv (x := nI n) (y := 32) hC dX5_puts_29 (by decide) ?_
  refine v_topi (y := nI (n / 32)) (pk_div (a := n) (d := 32) (by omega) (by decide) (by decide)) ?_
  refine v_iadd (x := 11) (y := nI (n / 32)) hC dX5_puts_30 ?_
  refine v_topi (y := nI (11 + (n / 32))) (nI_add 11 (n / 32)) ?_
  refine v_iload_n hC dX5_puts_31 5 rfl ?_
  refine v_beq (b := is) (tgt := 43) hC dX5_puts_32 (by decide) (fun c32 => ?_) (fun c32 => ?_)
  · skip
    refine v_iload hC dX5_puts_43 0 rfl ?_
    refine v_iload hC dX5_puts_45 1 rfl ?_
    refine v_iconst (v := (-1)) hC dX5_puts_47 (by decide) ?_
    refine v_ixor (x := 1 <<< ((nI (n % 32)) &&& 31)) (y := (-1)) hC dX5_puts_48 ?_
    refine v_iand (x := ofN (yn Y) s (11 + (n / 32))) (y := (1 <<< ((nI (n % 32)) &&& 31)) ^^^ (-1)) hC dX5_puts_49 ?_
    refine v_callVv (C2 := CC Λ X (ynS Y (layN (yn Y) s (11 + (n / 32)) ((ofN (yn Y) s (11 + (n / 32))) &&& ((1 <<< ((nI (n % 32)) &&& 31)) ^^^ (-1)))))) (As := [.int (nI s), .int (nI (11 + (n / 32))), .int ((ofN (yn Y) s (11 + (n / 32))) &&& ((1 <<< ((nI (n % 32)) &&& 31)) ^^^ (-1)))]) (rest := []) hC 3 204 (c_X5_lays Λ X Y (s := s) (w := 11 + (n / 32)) (v := (ofN (yn Y) s (11 + (n / 32))) &&& ((1 <<< ((nI (n % 32)) &&& 31)) ^^^ (-1))) (by omega) (by omega)) (nR_of (by decide)) (cc_204 Λ X Y) rfl gX5_puts_X5_lays rfl rfl rfl hd_X5_lays ⟨by decide, by decide⟩ rfl rfl (Nat.le_of_ble_eq_true rfl) dX5_puts_50 ?_
    exact v_vret hC hR rfl (mem_n (by simp [putN, bitI, c32])) dX5_puts_53
  · skip
    refine v_iload hC dX5_puts_35 0 rfl ?_
    refine v_iload hC dX5_puts_37 1 rfl ?_
    refine v_ior (x := ofN (yn Y) s (11 + (n / 32))) (y := 1 <<< ((nI (n % 32)) &&& 31)) hC dX5_puts_39 ?_
    refine v_goto (tgt := 50) hC dX5_puts_40 (by decide) ?_
    refine v_callVv (C2 := CC Λ X (ynS Y (layN (yn Y) s (11 + (n / 32)) ((ofN (yn Y) s (11 + (n / 32))) ||| (1 <<< ((nI (n % 32)) &&& 31)))))) (As := [.int (nI s), .int (nI (11 + (n / 32))), .int ((ofN (yn Y) s (11 + (n / 32))) ||| (1 <<< ((nI (n % 32)) &&& 31)))]) (rest := []) hC 3 204 (c_X5_lays Λ X Y (s := s) (w := 11 + (n / 32)) (v := (ofN (yn Y) s (11 + (n / 32))) ||| (1 <<< ((nI (n % 32)) &&& 31))) (by omega) (by omega)) (nR_of (by decide)) (cc_204 Λ X Y) rfl gX5_puts_X5_lays rfl rfl rfl hd_X5_lays ⟨by decide, by decide⟩ rfl rfl (Nat.le_of_ble_eq_true rfl) dX5_puts_50 ?_
    exact v_vret hC hR rfl (mem_n (by simp [putN, bitI, c32])) dX5_puts_53
