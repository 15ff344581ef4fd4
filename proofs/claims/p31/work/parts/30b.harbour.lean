theorem in_X1_setsAtSea_X1 : ∀ w ∈ wsX10, w ∈ wsX1_setsAtSea := by decide +kernel
theorem fl_X1_setsAtSea_18 : Cond.fieldLink RX1 18 "BoatSets$Harbour" "sets" "I" ∈ wsX1_setsAtSea := by decide +kernel
theorem fl_X1_setsAtSea_11 : Cond.fieldLink RX1 11 "BoatSets$Harbour" "fleets" "[LBoatSets$Fleet;" ∈ wsX1_setsAtSea := by decide +kernel
theorem in_X1_setsAtSea_X0 : ∀ w ∈ wsX00, w ∈ wsX1_setsAtSea := by decide +kernel
theorem fl_X1_setsAtSea_30 : Cond.fieldLink RX1 30 "BoatSets$Fleet" "atSea" "Z" ∈ wsX1_setsAtSea := by decide +kernel
theorem hd_X1_setsAtSea : yX1_setsAtSea.cls = RX1 ∧ yX1_setsAtSea.cls ≠ "java/lang/invoke/MethodHandle" ∧ yX1_setsAtSea.cls ≠ "java/lang/invoke/VarHandle" ∧ (parseMethodDescriptor yX1_setsAtSea.desc).map (fun d => d.parameters.length) = some 0 := by decide +kernel
set_option maxHeartbeats 400000 in
set_option maxRecDepth 100000 in
theorem c_X1_setsAtSea (Λ : Lk) (X : XS) (Y : YS) {h : Nat} (hh : h < 6) {m : Nat} (hm0 : xh X h = nI m) (hm : m ≤ 6) : Con Λ yX1_setsAtSea wsX1_setsAtSea { frames := 0, cells := 0, slots := 0, locals := 0 } [rf Λ (185 + 2 * h)] (CC Λ X Y) (some (.int (sumI (fun j => bI (fa (hF X h j))) m))) (CC Λ X Y) := by
  refine con_start (cc := cX1_setsAtSea) (maxL := 3) (ret := (some .int)) (by decide) rfl (Nat.le_of_ble_eq_true rfl) ?_
  intro κ hC hR
  have hC : Ok Λ { frames := 0, cells := 0, slots := 0, locals := 0 } cX1_setsAtSea wsX1_setsAtSea RX1 3 κ := hC
  refine v_args (lv' := [(0, rf Λ (185 + 2 * h))]) rfl ?_
  refine v_iconst (v := 0) hC dX1_setsAtSea_0 (by decide) ?_
  refine v_istore_n (lv' := [(1, .int 0), (0, rf Λ (185 + 2 * h))]) hC dX1_setsAtSea_1 (by decide) rfl ?_
  refine v_iconst (v := 0) hC dX1_setsAtSea_2 (by decide) ?_
  refine v_istore_n (lv' := [(2, .int 0), (1, .int 0), (0, rf Λ (185 + 2 * h))]) hC dX1_setsAtSea_3 (by decide) rfl ?_
  have L4 : ∀ (fu4 : Nat) (j : Nat) (x1 : Int32) (x2 : Int32), j ≤ m → x1 = sumI (fun j => bI (fa (hF X h j))) j → x2 = nI j → m - j < fu4 → V Λ κ (CC Λ X Y) 4 [(0, rf Λ (185 + 2 * h)), (1, .int x1), (2, .int x2)] [] := by
    intro fu4
    induction fu4 with
    | zero => intro j x1 x2 hj e1 e2 hfu4; exact absurd hfu4 (Nat.not_lt_zero _)
    | succ fu4 ih4 =>
      intro j x1 x2 hj e1 e2 hfu4
      subst e1
      subst e2
      refine v_iload_n hC dX1_setsAtSea_4 2 rfl ?_
      refine v_aload_n hC dX1_setsAtSea_5 0 rfl ?_
      refine v_get (T := TX1) (N := 2) (v := .int ((xh X) h)) hC (185 + 2 * h) (rb_h hh) (cc_h Λ X Y hh) in_X1_setsAtSea_X1 rfl 1 (by decide) fl_X1_setsAtSea_18 rfl dX1_setsAtSea_6 ?_
      refine v_topi (y := nI m) hm0 ?_
      refine v_nge (a := j) (b := m) (tgt := 38) hC dX1_setsAtSea_9 (by decide) rfl rfl (by omega) (by omega) (fun c9 => ?_) (fun c9 => ?_)
      · have c9' := Nat.not_lt.mpr c9
        have e_j : m = j := by omega
        subst e_j
        refine v_iload_n hC dX1_setsAtSea_38 1 rfl ?_
        exact v_iret hC hR rfl rfl dX1_setsAtSea_39
      · have c9' := Nat.not_le.mpr c9
        refine v_iload_n hC dX1_setsAtSea_12 1 rfl ?_
        refine v_aload_n hC dX1_setsAtSea_13 0 rfl ?_
        refine v_get (T := TX1) (N := 2) (v := rf Λ (186 + 2 * h)) hC (185 + 2 * h) (rb_h hh) (cc_h Λ X Y hh) in_X1_setsAtSea_X1 rfl 0 (by decide) fl_X1_setsAtSea_11 rfl dX1_setsAtSea_14 ?_
        refine v_iload_n hC dX1_setsAtSea_17 2 rfl ?_
        refine v_aald (Cn := "BoatSets$Fleet") (n := 6) (r2 := 5 * (6 * h + j)) hC (186 + 2 * h) (rb_hr hh) 3 rfl (cc_hr Λ X Y hh) j rfl (by omega) (by decide) rfl dX1_setsAtSea_18 ?_
        refine v_get (T := TX0) (N := 7) (v := .int (bI (fa (hF X h j)))) hC (5 * (6 * h + j)) (rb_f0 (by omega)) (cc_f0 Λ Y (by omega) rfl) in_X1_setsAtSea_X0 rfl 6 (by decide) fl_X1_setsAtSea_30 rfl dX1_setsAtSea_19 ?_
        refine v_beq (b := (fa (hF X h j))) (tgt := 29) hC dX1_setsAtSea_22 (by decide) (fun c22 => ?_) (fun c22 => ?_)
        · skip
          refine v_iconst (v := 0) hC dX1_setsAtSea_29 (by decide) ?_
          refine v_iadd (x := sumI (fun j => bI (fa (hF X h j))) j) (y := 0) hC dX1_setsAtSea_30 ?_
          refine v_istore_n (lv' := [(1, .int ((sumI (fun j => bI (fa (hF X h j))) j) + 0)), (0, rf Λ (185 + 2 * h)), (2, .int (nI j))]) hC dX1_setsAtSea_31 (by decide) rfl ?_
          refine v_iinc (j := 2) (v := nI (j + 1)) (lv' := [(2, .int (nI (j + 1))), (1, .int ((sumI (fun j => bI (fa (hF X h j))) j) + 0)), (0, rf Λ (185 + 2 * h))]) hC dX1_setsAtSea_32 rfl (nI_add j 1) (by decide) rfl ?_
          refine v_goto (tgt := 4) hC dX1_setsAtSea_35 (by decide) ?_
          refine v_sub (lv' := [(0, rf Λ (185 + 2 * h)), (1, .int ((sumI (fun j => bI (fa (hF X h j))) j) + 0)), (2, .int (nI (j + 1)))]) [2, 1, 0] rfl ?_
          exact ih4 (j + 1) _ _ (by omega) (by simp [sumI, bI, c9, c9', c22]) rfl (by omega)
        · skip
          refine v_iconst (v := 1) hC dX1_setsAtSea_25 (by decide) ?_
          refine v_goto (tgt := 30) hC dX1_setsAtSea_26 (by decide) ?_
          refine v_iadd (x := sumI (fun j => bI (fa (hF X h j))) j) (y := 1) hC dX1_setsAtSea_30 ?_
          refine v_istore_n (lv' := [(1, .int ((sumI (fun j => bI (fa (hF X h j))) j) + 1)), (0, rf Λ (185 + 2 * h)), (2, .int (nI j))]) hC dX1_setsAtSea_31 (by decide) rfl ?_
          refine v_iinc (j := 2) (v := nI (j + 1)) (lv' := [(2, .int (nI (j + 1))), (1, .int ((sumI (fun j => bI (fa (hF X h j))) j) + 1)), (0, rf Λ (185 + 2 * h))]) hC dX1_setsAtSea_32 rfl (nI_add j 1) (by decide) rfl ?_
          refine v_goto (tgt := 4) hC dX1_setsAtSea_35 (by decide) ?_
          refine v_sub (lv' := [(0, rf Λ (185 + 2 * h)), (1, .int ((sumI (fun j => bI (fa (hF X h j))) j) + 1)), (2, .int (nI (j + 1)))]) [2, 1, 0] rfl ?_
          exact ih4 (j + 1) _ _ (by omega) (by simp [sumI, bI, c9, c9', c22]) rfl (by omega)
  refine v_sub (lv' := [(0, rf Λ (185 + 2 * h)), (1, .int 0), (2, .int 0)]) [2, 1, 0] rfl ?_
  exact L4 _ 0 _ _ (by omega) rfl rfl (Nat.lt_succ_self _)
theorem in_X1_boatsOfKind_X1 : ∀ w ∈ wsX10, w ∈ wsX1_boatsOfKind := by decide +kernel
theorem fl_X1_boatsOfKind_18 : Cond.fieldLink RX1 18 "BoatSets$Harbour" "sets" "I" ∈ wsX1_boatsOfKind := by decide +kernel
theorem fl_X1_boatsOfKind_11 : Cond.fieldLink RX1 11 "BoatSets$Harbour" "fleets" "[LBoatSets$Fleet;" ∈ wsX1_boatsOfKind := by decide +kernel
theorem hd_X1_boatsOfKind : yX1_boatsOfKind.cls = RX1 ∧ yX1_boatsOfKind.cls ≠ "java/lang/invoke/MethodHandle" ∧ yX1_boatsOfKind.cls ≠ "java/lang/invoke/VarHandle" ∧ (parseMethodDescriptor yX1_boatsOfKind.desc).map (fun d => d.parameters.length) = some 1 := by decide +kernel
set_option maxHeartbeats 400000 in
set_option maxRecDepth 100000 in
theorem c_X1_boatsOfKind (Λ : Lk) (X : XS) (Y : YS) {h : Nat} (hh : h < 6) {k : Int32} {m : Nat} (hm0 : xh X h = nI m) (hm : m ≤ 6) : Con Λ yX1_boatsOfKind wsX1_boatsOfKind { frames := 1, cells := 0, slots := 0, locals := 23 } [rf Λ (185 + 2 * h), .int k] (CC Λ X Y) (some (.int (sumI (fun j => bkC (hF X h j) k 8) m))) (CC Λ X Y) := by
  refine con_start (cc := cX1_boatsOfKind) (maxL := 4) (ret := (some .int)) (by decide) rfl (Nat.le_of_ble_eq_true rfl) ?_
  intro κ hC hR
  have hC : Ok Λ { frames := 1, cells := 0, slots := 0, locals := 23 } cX1_boatsOfKind wsX1_boatsOfKind RX1 4 κ := hC
  refine v_args (lv' := [(0, rf Λ (185 + 2 * h)), (1, .int k)]) rfl ?_
  refine v_iconst (v := 0) hC dX1_boatsOfKind_0 (by decide) ?_
  refine v_istore_n (lv' := [(2, .int 0), (0, rf Λ (185 + 2 * h)), (1, .int k)]) hC dX1_boatsOfKind_1 (by decide) rfl ?_
  refine v_iconst (v := 0) hC dX1_boatsOfKind_2 (by decide) ?_
  refine v_istore_n (lv' := [(3, .int 0), (2, .int 0), (0, rf Λ (185 + 2 * h)), (1, .int k)]) hC dX1_boatsOfKind_3 (by decide) rfl ?_
  have L4 : ∀ (fu4 : Nat) (j : Nat) (x2 : Int32) (x3 : Int32), j ≤ m → x2 = sumI (fun j => bkC (hF X h j) k 8) j → x3 = nI j → m - j < fu4 → V Λ κ (CC Λ X Y) 4 [(0, rf Λ (185 + 2 * h)), (1, .int k), (2, .int x2), (3, .int x3)] [] := by
    intro fu4
    induction fu4 with
    | zero => intro j x2 x3 hj e2 e3 hfu4; exact absurd hfu4 (Nat.not_lt_zero _)
    | succ fu4 ih4 =>
      intro j x2 x3 hj e2 e3 hfu4
      subst e2
      subst e3
      refine v_iload_n hC dX1_boatsOfKind_4 3 rfl ?_
      refine v_aload_n hC dX1_boatsOfKind_5 0 rfl ?_
      refine v_get (T := TX1) (N := 2) (v := .int ((xh X) h)) hC (185 + 2 * h) (rb_h hh) (cc_h Λ X Y hh) in_X1_boatsOfKind_X1 rfl 1 (by decide) fl_X1_boatsOfKind_18 rfl dX1_boatsOfKind_6 ?_
      refine v_topi (y := nI m) hm0 ?_
      refine v_nge (a := j) (b := m) (tgt := 31) hC dX1_boatsOfKind_9 (by decide) rfl rfl (by omega) (by omega) (fun c9 => ?_) (fun c9 => ?_)
      · have c9' := Nat.not_lt.mpr c9
        have e_j : m = j := by omega
        subst e_j
        refine v_iload_n hC dX1_boatsOfKind_31 2 rfl ?_
        exact v_iret hC hR rfl rfl dX1_boatsOfKind_32
      · have c9' := Nat.not_le.mpr c9
        refine v_iload_n hC dX1_boatsOfKind_12 2 rfl ?_
        refine v_aload_n hC dX1_boatsOfKind_13 0 rfl ?_
        refine v_get (T := TX1) (N := 2) (v := rf Λ (186 + 2 * h)) hC (185 + 2 * h) (rb_h hh) (cc_h Λ X Y hh) in_X1_boatsOfKind_X1 rfl 0 (by decide) fl_X1_boatsOfKind_11 rfl dX1_boatsOfKind_14 ?_
        refine v_iload_n hC dX1_boatsOfKind_17 3 rfl ?_
        refine v_aald (Cn := "BoatSets$Fleet") (n := 6) (r2 := 5 * (6 * h + j)) hC (186 + 2 * h) (rb_hr hh) 3 rfl (cc_hr Λ X Y hh) j rfl (by omega) (by decide) rfl dX1_boatsOfKind_18 ?_
        refine v_iload_n hC dX1_boatsOfKind_19 1 rfl ?_
        refine v_callVr (v := .int (bkC (hF X h j) k 8)) (C2 := CC Λ X Y) (As := [.int k]) (rest := [.int (sumI (fun j => bkC (hF X h j) k 8) j)]) hC 1 (5 * (6 * h + j)) (c_X0_boatsOfKind Λ X Y (i := (6 * h + j)) (f := (hF X h j)) (by omega) rfl (k := k)) (rb_f0 (by omega)) (cc_f0 Λ Y (by omega) rfl) rfl gX1_boatsOfKind_X0_boatsOfKind rfl rfl rfl hd_X0_boatsOfKind ⟨by decide, by decide⟩ rfl rfl (Nat.le_of_ble_eq_true rfl) dX1_boatsOfKind_20 ?_
        refine v_iadd (x := sumI (fun j => bkC (hF X h j) k 8) j) (y := bkC (hF X h j) k 8) hC dX1_boatsOfKind_23 ?_
        refine v_istore_n (lv' := [(2, .int ((sumI (fun j => bkC (hF X h j) k 8) j) + (bkC (hF X h j) k 8))), (0, rf Λ (185 + 2 * h)), (1, .int k), (3, .int (nI j))]) hC dX1_boatsOfKind_24 (by decide) rfl ?_
        refine v_iinc (j := 3) (v := nI (j + 1)) (lv' := [(3, .int (nI (j + 1))), (2, .int ((sumI (fun j => bkC (hF X h j) k 8) j) + (bkC (hF X h j) k 8))), (0, rf Λ (185 + 2 * h)), (1, .int k)]) hC dX1_boatsOfKind_25 rfl (nI_add j 1) (by decide) rfl ?_
        refine v_goto (tgt := 4) hC dX1_boatsOfKind_28 (by decide) ?_
        refine v_sub (lv' := [(0, rf Λ (185 + 2 * h)), (1, .int k), (2, .int ((sumI (fun j => bkC (hF X h j) k 8) j) + (bkC (hF X h j) k 8))), (3, .int (nI (j + 1)))]) [2, 3, 1, 0] rfl ?_
        exact ih4 (j + 1) _ _ (by omega) rfl rfl (by omega)
  refine v_sub (lv' := [(0, rf Λ (185 + 2 * h)), (1, .int k), (2, .int 0), (3, .int 0)]) [2, 3, 1, 0] rfl ?_
  exact L4 _ 0 _ _ (by omega) rfl rfl (Nat.lt_succ_self _)
theorem in_X1_units_X1 : ∀ w ∈ wsX10, w ∈ wsX1_units := by decide +kernel
theorem fl_X1_units_18 : Cond.fieldLink RX1 18 "BoatSets$Harbour" "sets" "I" ∈ wsX1_units := by decide +kernel
theorem fl_X1_units_11 : Cond.fieldLink RX1 11 "BoatSets$Harbour" "fleets" "[LBoatSets$Fleet;" ∈ wsX1_units := by decide +kernel
theorem hd_X1_units : yX1_units.cls = RX1 ∧ yX1_units.cls ≠ "java/lang/invoke/MethodHandle" ∧ yX1_units.cls ≠ "java/lang/invoke/VarHandle" ∧ (parseMethodDescriptor yX1_units.desc).map (fun d => d.parameters.length) = some 0 := by decide +kernel
set_option maxHeartbeats 400000 in
set_option maxRecDepth 100000 in
theorem c_X1_units (Λ : Lk) (X : XS) (Y : YS) {h : Nat} (hh : h < 6) {m : Nat} (hm0 : xh X h = nI m) (hm : m ≤ 6) : Con Λ yX1_units wsX1_units { frames := 2, cells := 0, slots := 0, locals := 44 } [rf Λ (185 + 2 * h)] (CC Λ X Y) (some (.int (sumI (fun j => sumI (fun b => unitsC (hF X h j) b (fk (hF X h j) b)) 8) m))) (CC Λ X Y) := by
  refine con_start (cc := cX1_units) (maxL := 3) (ret := (some .int)) (by decide) rfl (Nat.le_of_ble_eq_true rfl) ?_
  intro κ hC hR
  have hC : Ok Λ { frames := 2, cells := 0, slots := 0, locals := 44 } cX1_units wsX1_units RX1 3 κ := hC
  refine v_args (lv' := [(0, rf Λ (185 + 2 * h))]) rfl ?_
  refine v_iconst (v := 0) hC dX1_units_0 (by decide) ?_
  refine v_istore_n (lv' := [(1, .int 0), (0, rf Λ (185 + 2 * h))]) hC dX1_units_1 (by decide) rfl ?_
  refine v_iconst (v := 0) hC dX1_units_2 (by decide) ?_
  refine v_istore_n (lv' := [(2, .int 0), (1, .int 0), (0, rf Λ (185 + 2 * h))]) hC dX1_units_3 (by decide) rfl ?_
  have L4 : ∀ (fu4 : Nat) (j : Nat) (x1 : Int32) (x2 : Int32), j ≤ m → x1 = sumI (fun j => sumI (fun b => unitsC (hF X h j) b (fk (hF X h j) b)) 8) j → x2 = nI j → m - j < fu4 → V Λ κ (CC Λ X Y) 4 [(0, rf Λ (185 + 2 * h)), (1, .int x1), (2, .int x2)] [] := by
    intro fu4
    induction fu4 with
    | zero => intro j x1 x2 hj e1 e2 hfu4; exact absurd hfu4 (Nat.not_lt_zero _)
    | succ fu4 ih4 =>
      intro j x1 x2 hj e1 e2 hfu4
      subst e1
      subst e2
      refine v_iload_n hC dX1_units_4 2 rfl ?_
      refine v_aload_n hC dX1_units_5 0 rfl ?_
      refine v_get (T := TX1) (N := 2) (v := .int ((xh X) h)) hC (185 + 2 * h) (rb_h hh) (cc_h Λ X Y hh) in_X1_units_X1 rfl 1 (by decide) fl_X1_units_18 rfl dX1_units_6 ?_
      refine v_topi (y := nI m) hm0 ?_
      refine v_nge (a := j) (b := m) (tgt := 30) hC dX1_units_9 (by decide) rfl rfl (by omega) (by omega) (fun c9 => ?_) (fun c9 => ?_)
      · have c9' := Nat.not_lt.mpr c9
        have e_j : m = j := by omega
        subst e_j
        refine v_iload_n hC dX1_units_30 1 rfl ?_
        exact v_iret hC hR rfl rfl dX1_units_31
      · have c9' := Nat.not_le.mpr c9
        refine v_iload_n hC dX1_units_12 1 rfl ?_
        refine v_aload_n hC dX1_units_13 0 rfl ?_
        refine v_get (T := TX1) (N := 2) (v := rf Λ (186 + 2 * h)) hC (185 + 2 * h) (rb_h hh) (cc_h Λ X Y hh) in_X1_units_X1 rfl 0 (by decide) fl_X1_units_11 rfl dX1_units_14 ?_
        refine v_iload_n hC dX1_units_17 2 rfl ?_
        refine v_aald (Cn := "BoatSets$Fleet") (n := 6) (r2 := 5 * (6 * h + j)) hC (186 + 2 * h) (rb_hr hh) 3 rfl (cc_hr Λ X Y hh) j rfl (by omega) (by decide) rfl dX1_units_18 ?_
        refine v_callVr (v := .int (sumI (fun b => unitsC (hF X h j) b (fk (hF X h j) b)) 8)) (C2 := CC Λ X Y) (As := []) (rest := [.int (sumI (fun j => sumI (fun b => unitsC (hF X h j) b (fk (hF X h j) b)) 8) j)]) hC 0 (5 * (6 * h + j)) (c_X0_units Λ X Y (i := (6 * h + j)) (f := (hF X h j)) (by omega) rfl) (rb_f0 (by omega)) (cc_f0 Λ Y (by omega) rfl) rfl gX1_units_X0_units rfl rfl rfl hd_X0_units ⟨by decide, by decide⟩ rfl rfl (Nat.le_of_ble_eq_true rfl) dX1_units_19 ?_
        refine v_iadd (x := sumI (fun j => sumI (fun b => unitsC (hF X h j) b (fk (hF X h j) b)) 8) j) (y := sumI (fun b => unitsC (hF X h j) b (fk (hF X h j) b)) 8) hC dX1_units_22 ?_
        refine v_istore_n (lv' := [(1, .int ((sumI (fun j => sumI (fun b => unitsC (hF X h j) b (fk (hF X h j) b)) 8) j) + (sumI (fun b => unitsC (hF X h j) b (fk (hF X h j) b)) 8))), (0, rf Λ (185 + 2 * h)), (2, .int (nI j))]) hC dX1_units_23 (by decide) rfl ?_
        refine v_iinc (j := 2) (v := nI (j + 1)) (lv' := [(2, .int (nI (j + 1))), (1, .int ((sumI (fun j => sumI (fun b => unitsC (hF X h j) b (fk (hF X h j) b)) 8) j) + (sumI (fun b => unitsC (hF X h j) b (fk (hF X h j) b)) 8))), (0, rf Λ (185 + 2 * h))]) hC dX1_units_24 rfl (nI_add j 1) (by decide) rfl ?_
        refine v_goto (tgt := 4) hC dX1_units_27 (by decide) ?_
        refine v_sub (lv' := [(0, rf Λ (185 + 2 * h)), (1, .int ((sumI (fun j => sumI (fun b => unitsC (hF X h j) b (fk (hF X h j) b)) 8) j) + (sumI (fun b => unitsC (hF X h j) b (fk (hF X h j) b)) 8))), (2, .int (nI (j + 1)))]) [2, 1, 0] rfl ?_
        exact ih4 (j + 1) _ _ (by omega) rfl rfl (by omega)
  refine v_sub (lv' := [(0, rf Λ (185 + 2 * h)), (1, .int 0), (2, .int 0)]) [2, 1, 0] rfl ?_
  exact L4 _ 0 _ _ (by omega) rfl rfl (Nat.lt_succ_self _)
theorem in_X1_numbers_X1 : ∀ w ∈ wsX10, w ∈ wsX1_numbers := by decide +kernel
theorem fl_X1_numbers_18 : Cond.fieldLink RX1 18 "BoatSets$Harbour" "sets" "I" ∈ wsX1_numbers := by decide +kernel
theorem fl_X1_numbers_11 : Cond.fieldLink RX1 11 "BoatSets$Harbour" "fleets" "[LBoatSets$Fleet;" ∈ wsX1_numbers := by decide +kernel
theorem hd_X1_numbers : yX1_numbers.cls = RX1 ∧ yX1_numbers.cls ≠ "java/lang/invoke/MethodHandle" ∧ yX1_numbers.cls ≠ "java/lang/invoke/VarHandle" ∧ (parseMethodDescriptor yX1_numbers.desc).map (fun d => d.parameters.length) = some 0 := by decide +kernel
set_option maxHeartbeats 400000 in
set_option maxRecDepth 100000 in
theorem c_X1_numbers (Λ : Lk) (X : XS) (Y : YS) {h : Nat} (hh : h < 6) {m : Nat} (hm0 : xh X h = nI m) (hm : m ≤ 6) : Con Λ yX1_numbers wsX1_numbers { frames := 1, cells := 0, slots := 0, locals := 22 } [rf Λ (185 + 2 * h)] (CC Λ X Y) (some (.int (sumI (fun j => sumI (fs (hF X h j)) 8) m))) (CC Λ X Y) := by
  refine con_start (cc := cX1_numbers) (maxL := 3) (ret := (some .int)) (by decide) rfl (Nat.le_of_ble_eq_true rfl) ?_
  intro κ hC hR
  have hC : Ok Λ { frames := 1, cells := 0, slots := 0, locals := 22 } cX1_numbers wsX1_numbers RX1 3 κ := hC
  refine v_args (lv' := [(0, rf Λ (185 + 2 * h))]) rfl ?_
  refine v_iconst (v := 0) hC dX1_numbers_0 (by decide) ?_
  refine v_istore_n (lv' := [(1, .int 0), (0, rf Λ (185 + 2 * h))]) hC dX1_numbers_1 (by decide) rfl ?_
  refine v_iconst (v := 0) hC dX1_numbers_2 (by decide) ?_
  refine v_istore_n (lv' := [(2, .int 0), (1, .int 0), (0, rf Λ (185 + 2 * h))]) hC dX1_numbers_3 (by decide) rfl ?_
  have L4 : ∀ (fu4 : Nat) (j : Nat) (x1 : Int32) (x2 : Int32), j ≤ m → x1 = sumI (fun j => sumI (fs (hF X h j)) 8) j → x2 = nI j → m - j < fu4 → V Λ κ (CC Λ X Y) 4 [(0, rf Λ (185 + 2 * h)), (1, .int x1), (2, .int x2)] [] := by
    intro fu4
    induction fu4 with
    | zero => intro j x1 x2 hj e1 e2 hfu4; exact absurd hfu4 (Nat.not_lt_zero _)
    | succ fu4 ih4 =>
      intro j x1 x2 hj e1 e2 hfu4
      subst e1
      subst e2
      refine v_iload_n hC dX1_numbers_4 2 rfl ?_
      refine v_aload_n hC dX1_numbers_5 0 rfl ?_
      refine v_get (T := TX1) (N := 2) (v := .int ((xh X) h)) hC (185 + 2 * h) (rb_h hh) (cc_h Λ X Y hh) in_X1_numbers_X1 rfl 1 (by decide) fl_X1_numbers_18 rfl dX1_numbers_6 ?_
      refine v_topi (y := nI m) hm0 ?_
      refine v_nge (a := j) (b := m) (tgt := 30) hC dX1_numbers_9 (by decide) rfl rfl (by omega) (by omega) (fun c9 => ?_) (fun c9 => ?_)
      · have c9' := Nat.not_lt.mpr c9
        have e_j : m = j := by omega
        subst e_j
        refine v_iload_n hC dX1_numbers_30 1 rfl ?_
        exact v_iret hC hR rfl rfl dX1_numbers_31
      · have c9' := Nat.not_le.mpr c9
        refine v_iload_n hC dX1_numbers_12 1 rfl ?_
        refine v_aload_n hC dX1_numbers_13 0 rfl ?_
        refine v_get (T := TX1) (N := 2) (v := rf Λ (186 + 2 * h)) hC (185 + 2 * h) (rb_h hh) (cc_h Λ X Y hh) in_X1_numbers_X1 rfl 0 (by decide) fl_X1_numbers_11 rfl dX1_numbers_14 ?_
        refine v_iload_n hC dX1_numbers_17 2 rfl ?_
        refine v_aald (Cn := "BoatSets$Fleet") (n := 6) (r2 := 5 * (6 * h + j)) hC (186 + 2 * h) (rb_hr hh) 3 rfl (cc_hr Λ X Y hh) j rfl (by omega) (by decide) rfl dX1_numbers_18 ?_
        refine v_callVr (v := .int (sumI (fs (hF X h j)) 8)) (C2 := CC Λ X Y) (As := []) (rest := [.int (sumI (fun j => sumI (fs (hF X h j)) 8) j)]) hC 0 (5 * (6 * h + j)) (c_X0_numbers Λ X Y (i := (6 * h + j)) (f := (hF X h j)) (by omega) rfl) (rb_f0 (by omega)) (cc_f0 Λ Y (by omega) rfl) rfl gX1_numbers_X0_numbers rfl rfl rfl hd_X0_numbers ⟨by decide, by decide⟩ rfl rfl (Nat.le_of_ble_eq_true rfl) dX1_numbers_19 ?_
        refine v_iadd (x := sumI (fun j => sumI (fs (hF X h j)) 8) j) (y := sumI (fs (hF X h j)) 8) hC dX1_numbers_22 ?_
        refine v_istore_n (lv' := [(1, .int ((sumI (fun j => sumI (fs (hF X h j)) 8) j) + (sumI (fs (hF X h j)) 8))), (0, rf Λ (185 + 2 * h)), (2, .int (nI j))]) hC dX1_numbers_23 (by decide) rfl ?_
        refine v_iinc (j := 2) (v := nI (j + 1)) (lv' := [(2, .int (nI (j + 1))), (1, .int ((sumI (fun j => sumI (fs (hF X h j)) 8) j) + (sumI (fs (hF X h j)) 8))), (0, rf Λ (185 + 2 * h))]) hC dX1_numbers_24 rfl (nI_add j 1) (by decide) rfl ?_
        refine v_goto (tgt := 4) hC dX1_numbers_27 (by decide) ?_
        refine v_sub (lv' := [(0, rf Λ (185 + 2 * h)), (1, .int ((sumI (fun j => sumI (fs (hF X h j)) 8) j) + (sumI (fs (hF X h j)) 8))), (2, .int (nI (j + 1)))]) [2, 1, 0] rfl ?_
        exact ih4 (j + 1) _ _ (by omega) rfl rfl (by omega)
  refine v_sub (lv' := [(0, rf Λ (185 + 2 * h)), (1, .int 0), (2, .int 0)]) [2, 1, 0] rfl ?_
  exact L4 _ 0 _ _ (by omega) rfl rfl (Nat.lt_succ_self _)
theorem in_X1_tollsPaid_X1 : ∀ w ∈ wsX10, w ∈ wsX1_tollsPaid := by decide +kernel
theorem fl_X1_tollsPaid_18 : Cond.fieldLink RX1 18 "BoatSets$Harbour" "sets" "I" ∈ wsX1_tollsPaid := by decide +kernel
theorem fl_X1_tollsPaid_11 : Cond.fieldLink RX1 11 "BoatSets$Harbour" "fleets" "[LBoatSets$Fleet;" ∈ wsX1_tollsPaid := by decide +kernel
theorem in_X1_tollsPaid_X0 : ∀ w ∈ wsX00, w ∈ wsX1_tollsPaid := by decide +kernel
theorem fl_X1_tollsPaid_45 : Cond.fieldLink RX1 45 "BoatSets$Fleet" "paid" "I" ∈ wsX1_tollsPaid := by decide +kernel
theorem hd_X1_tollsPaid : yX1_tollsPaid.cls = RX1 ∧ yX1_tollsPaid.cls ≠ "java/lang/invoke/MethodHandle" ∧ yX1_tollsPaid.cls ≠ "java/lang/invoke/VarHandle" ∧ (parseMethodDescriptor yX1_tollsPaid.desc).map (fun d => d.parameters.length) = some 0 := by decide +kernel
set_option maxHeartbeats 400000 in
set_option maxRecDepth 100000 in
theorem c_X1_tollsPaid (Λ : Lk) (X : XS) (Y : YS) {h : Nat} (hh : h < 6) {m : Nat} (hm0 : xh X h = nI m) (hm : m ≤ 6) : Con Λ yX1_tollsPaid wsX1_tollsPaid { frames := 0, cells := 0, slots := 0, locals := 0 } [rf Λ (185 + 2 * h)] (CC Λ X Y) (some (.int (sumI (fun j => fd (hF X h j)) m))) (CC Λ X Y) := by
  refine con_start (cc := cX1_tollsPaid) (maxL := 3) (ret := (some .int)) (by decide) rfl (Nat.le_of_ble_eq_true rfl) ?_
  intro κ hC hR
  have hC : Ok Λ { frames := 0, cells := 0, slots := 0, locals := 0 } cX1_tollsPaid wsX1_tollsPaid RX1 3 κ := hC
  refine v_args (lv' := [(0, rf Λ (185 + 2 * h))]) rfl ?_
  refine v_iconst (v := 0) hC dX1_tollsPaid_0 (by decide) ?_
  refine v_istore_n (lv' := [(1, .int 0), (0, rf Λ (185 + 2 * h))]) hC dX1_tollsPaid_1 (by decide) rfl ?_
  refine v_iconst (v := 0) hC dX1_tollsPaid_2 (by decide) ?_
  refine v_istore_n (lv' := [(2, .int 0), (1, .int 0), (0, rf Λ (185 + 2 * h))]) hC dX1_tollsPaid_3 (by decide) rfl ?_
  have L4 : ∀ (fu4 : Nat) (j : Nat) (x1 : Int32) (x2 : Int32), j ≤ m → x1 = sumI (fun j => fd (hF X h j)) j → x2 = nI j → m - j < fu4 → V Λ κ (CC Λ X Y) 4 [(0, rf Λ (185 + 2 * h)), (1, .int x1), (2, .int x2)] [] := by
    intro fu4
    induction fu4 with
    | zero => intro j x1 x2 hj e1 e2 hfu4; exact absurd hfu4 (Nat.not_lt_zero _)
    | succ fu4 ih4 =>
      intro j x1 x2 hj e1 e2 hfu4
      subst e1
      subst e2
      refine v_iload_n hC dX1_tollsPaid_4 2 rfl ?_
      refine v_aload_n hC dX1_tollsPaid_5 0 rfl ?_
      refine v_get (T := TX1) (N := 2) (v := .int ((xh X) h)) hC (185 + 2 * h) (rb_h hh) (cc_h Λ X Y hh) in_X1_tollsPaid_X1 rfl 1 (by decide) fl_X1_tollsPaid_18 rfl dX1_tollsPaid_6 ?_
      refine v_topi (y := nI m) hm0 ?_
      refine v_nge (a := j) (b := m) (tgt := 30) hC dX1_tollsPaid_9 (by decide) rfl rfl (by omega) (by omega) (fun c9 => ?_) (fun c9 => ?_)
      · have c9' := Nat.not_lt.mpr c9
        have e_j : m = j := by omega
        subst e_j
        refine v_iload_n hC dX1_tollsPaid_30 1 rfl ?_
        exact v_iret hC hR rfl rfl dX1_tollsPaid_31
      · have c9' := Nat.not_le.mpr c9
        refine v_iload_n hC dX1_tollsPaid_12 1 rfl ?_
        refine v_aload_n hC dX1_tollsPaid_13 0 rfl ?_
        refine v_get (T := TX1) (N := 2) (v := rf Λ (186 + 2 * h)) hC (185 + 2 * h) (rb_h hh) (cc_h Λ X Y hh) in_X1_tollsPaid_X1 rfl 0 (by decide) fl_X1_tollsPaid_11 rfl dX1_tollsPaid_14 ?_
        refine v_iload_n hC dX1_tollsPaid_17 2 rfl ?_
        refine v_aald (Cn := "BoatSets$Fleet") (n := 6) (r2 := 5 * (6 * h + j)) hC (186 + 2 * h) (rb_hr hh) 3 rfl (cc_hr Λ X Y hh) j rfl (by omega) (by decide) rfl dX1_tollsPaid_18 ?_
        refine v_get (T := TX0) (N := 7) (v := .int (fd (hF X h j))) hC (5 * (6 * h + j)) (rb_f0 (by omega)) (cc_f0 Λ Y (by omega) rfl) in_X1_tollsPaid_X0 rfl 5 (by decide) fl_X1_tollsPaid_45 rfl dX1_tollsPaid_19 ?_
        refine v_iadd (x := sumI (fun j => fd (hF X h j)) j) (y := (fd (hF X h j))) hC dX1_tollsPaid_22 ?_
        refine v_istore_n (lv' := [(1, .int ((sumI (fun j => fd (hF X h j)) j) + (fd (hF X h j)))), (0, rf Λ (185 + 2 * h)), (2, .int (nI j))]) hC dX1_tollsPaid_23 (by decide) rfl ?_
        refine v_iinc (j := 2) (v := nI (j + 1)) (lv' := [(2, .int (nI (j + 1))), (1, .int ((sumI (fun j => fd (hF X h j)) j) + (fd (hF X h j)))), (0, rf Λ (185 + 2 * h))]) hC dX1_tollsPaid_24 rfl (nI_add j 1) (by decide) rfl ?_
        refine v_goto (tgt := 4) hC dX1_tollsPaid_27 (by decide) ?_
        refine v_sub (lv' := [(0, rf Λ (185 + 2 * h)), (1, .int ((sumI (fun j => fd (hF X h j)) j) + (fd (hF X h j)))), (2, .int (nI (j + 1)))]) [2, 1, 0] rfl ?_
        exact ih4 (j + 1) _ _ (by omega) rfl rfl (by omega)
  refine v_sub (lv' := [(0, rf Λ (185 + 2 * h)), (1, .int 0), (2, .int 0)]) [2, 1, 0] rfl ?_
  exact L4 _ 0 _ _ (by omega) rfl rfl (Nat.lt_succ_self _)
theorem in_X1_heldByAny_X1 : ∀ w ∈ wsX10, w ∈ wsX1_heldByAny := by decide +kernel
theorem fl_X1_heldByAny_18 : Cond.fieldLink RX1 18 "BoatSets$Harbour" "sets" "I" ∈ wsX1_heldByAny := by decide +kernel
theorem fl_X1_heldByAny_11 : Cond.fieldLink RX1 11 "BoatSets$Harbour" "fleets" "[LBoatSets$Fleet;" ∈ wsX1_heldByAny := by decide +kernel
theorem in_X1_heldByAny_X0 : ∀ w ∈ wsX00, w ∈ wsX1_heldByAny := by decide +kernel
theorem fl_X1_heldByAny_58 : Cond.fieldLink RX1 58 "BoatSets$Fleet" "words" "[J" ∈ wsX1_heldByAny := by decide +kernel
theorem hd_X1_heldByAny : yX1_heldByAny.cls = RX1 ∧ yX1_heldByAny.cls ≠ "java/lang/invoke/MethodHandle" ∧ yX1_heldByAny.cls ≠ "java/lang/invoke/VarHandle" ∧ (parseMethodDescriptor yX1_heldByAny.desc).map (fun d => d.parameters.length) = some 1 := by decide +kernel
set_option maxHeartbeats 400000 in
set_option maxRecDepth 100000 in
theorem c_X1_heldByAny (Λ : Lk) (X : XS) (Y : YS) {h : Nat} (hh : h < 6) {v : Nat} {m : Nat} (hm0 : xh X h = nI m) (hm : m ≤ 6) (hv : v < 32) : Con Λ yX1_heldByAny wsX1_heldByAny { frames := 0, cells := 0, slots := 0, locals := 0 } [rf Λ (185 + 2 * h), .int (nI v)] (CC Λ X Y) (some (.long (orC (hF X h) v m))) (CC Λ X Y) := by
  refine con_start (cc := cX1_heldByAny) (maxL := 5) (ret := (some .long)) (by decide) rfl (Nat.le_of_ble_eq_true rfl) ?_
  intro κ hC hR
  have hC : Ok Λ { frames := 0, cells := 0, slots := 0, locals := 0 } cX1_heldByAny wsX1_heldByAny RX1 5 κ := hC
  refine v_args (lv' := [(0, rf Λ (185 + 2 * h)), (1, .int (nI v))]) rfl ?_
  refine v_lconst (v := 0) hC dX1_heldByAny_0 (by decide) ?_
  refine v_lstore_n (lv' := [(2, .long 0), (0, rf Λ (185 + 2 * h)), (1, .int (nI v))]) hC dX1_heldByAny_1 (by decide) rfl ?_
  refine v_iconst (v := 0) hC dX1_heldByAny_2 (by decide) ?_
  refine v_istore (lv' := [(4, .int 0), (2, .long 0), (0, rf Λ (185 + 2 * h)), (1, .int (nI v))]) hC dX1_heldByAny_3 (by decide) rfl ?_
  have L5 : ∀ (fu5 : Nat) (j : Nat) (x2 : Int64) (x4 : Int32), j ≤ m → x2 = orC (hF X h) v j → x4 = nI j → m - j < fu5 → V Λ κ (CC Λ X Y) 5 [(0, rf Λ (185 + 2 * h)), (1, .int (nI v)), (2, .long x2), (4, .int x4)] [] := by
    intro fu5
    induction fu5 with
    | zero => intro j x2 x4 hj e2 e4 hfu5; exact absurd hfu5 (Nat.not_lt_zero _)
    | succ fu5 ih5 =>
      intro j x2 x4 hj e2 e4 hfu5
      subst e2
      subst e4
      refine v_iload hC dX1_heldByAny_5 3 rfl ?_
      refine v_aload_n hC dX1_heldByAny_7 0 rfl ?_
      refine v_get (T := TX1) (N := 2) (v := .int ((xh X) h)) hC (185 + 2 * h) (rb_h hh) (cc_h Λ X Y hh) in_X1_heldByAny_X1 rfl 1 (by decide) fl_X1_heldByAny_18 rfl dX1_heldByAny_8 ?_
      refine v_topi (y := nI m) hm0 ?_
      refine v_nge (a := j) (b := m) (tgt := 35) hC dX1_heldByAny_11 (by decide) rfl rfl (by omega) (by omega) (fun c11 => ?_) (fun c11 => ?_)
      · have c11' := Nat.not_lt.mpr c11
        have e_j : m = j := by omega
        subst e_j
        refine v_lload_n hC dX1_heldByAny_35 2 rfl ?_
        exact v_lret hC hR rfl rfl dX1_heldByAny_36
      · have c11' := Nat.not_le.mpr c11
        refine v_lload_n hC dX1_heldByAny_14 2 rfl ?_
        refine v_aload_n hC dX1_heldByAny_15 0 rfl ?_
        refine v_get (T := TX1) (N := 2) (v := rf Λ (186 + 2 * h)) hC (185 + 2 * h) (rb_h hh) (cc_h Λ X Y hh) in_X1_heldByAny_X1 rfl 0 (by decide) fl_X1_heldByAny_11 rfl dX1_heldByAny_16 ?_
        refine v_iload hC dX1_heldByAny_19 3 rfl ?_
        refine v_aald (Cn := "BoatSets$Fleet") (n := 6) (r2 := 5 * (6 * h + j)) hC (186 + 2 * h) (rb_hr hh) 3 rfl (cc_hr Λ X Y hh) j rfl (by omega) (by decide) rfl dX1_heldByAny_21 ?_
        refine v_get (T := TX0) (N := 7) (v := rf Λ (5 * (6 * h + j) + 1)) hC (5 * (6 * h + j)) (rb_f0 (by omega)) (cc_f0 Λ Y (by omega) rfl) in_X1_heldByAny_X0 rfl 0 (by decide) fl_X1_heldByAny_58 rfl dX1_heldByAny_22 ?_
        refine v_iload_n hC dX1_heldByAny_25 1 rfl ?_
        refine v_lald (n := 32) (f := (fw (hF X h j))) hC (5 * (6 * h + j) + 1) (rb_f (by omega) (by decide)) (cc_f1 Λ Y (by omega) rfl) v rfl (by omega) (by decide) dX1_heldByAny_26 ?_
        refine v_lor hC dX1_heldByAny_27 ?_
        refine v_lstore_n (lv' := [(2, .long ((orC (hF X h) v j) ||| ((fw (hF X h j)) v))), (0, rf Λ (185 + 2 * h)), (1, .int (nI v)), (4, .int (nI j))]) hC dX1_heldByAny_28 (by decide) rfl ?_
        refine v_iinc (j := 3) (v := nI (j + 1)) (lv' := [(4, .int (nI (j + 1))), (2, .long ((orC (hF X h) v j) ||| ((fw (hF X h j)) v))), (0, rf Λ (185 + 2 * h)), (1, .int (nI v))]) hC dX1_heldByAny_29 rfl (nI_add j 1) (by decide) rfl ?_
        refine v_goto (tgt := 5) hC dX1_heldByAny_32 (by decide) ?_
        refine v_sub (lv' := [(0, rf Λ (185 + 2 * h)), (1, .int (nI v)), (2, .long ((orC (hF X h) v j) ||| ((fw (hF X h j)) v))), (4, .int (nI (j + 1)))]) [2, 3, 1, 0] rfl ?_
        exact ih5 (j + 1) _ _ (by omega) rfl rfl (by omega)
  refine v_sub (lv' := [(0, rf Λ (185 + 2 * h)), (1, .int (nI v)), (2, .long 0), (4, .int 0)]) [2, 3, 1, 0] rfl ?_
  exact L5 _ 0 _ _ (by omega) rfl rfl (Nat.lt_succ_self _)
theorem hd_X1_differentNumbers : yX1_differentNumbers.cls = RX1 ∧ yX1_differentNumbers.cls ≠ "java/lang/invoke/MethodHandle" ∧ yX1_differentNumbers.cls ≠ "java/lang/invoke/VarHandle" ∧ (parseMethodDescriptor yX1_differentNumbers.desc).map (fun d => d.parameters.length) = some 0 := by decide +kernel
set_option maxHeartbeats 400000 in
set_option maxRecDepth 100000 in
theorem c_X1_differentNumbers (Λ : Lk) (X : XS) (Y : YS) {h : Nat} (hh : h < 6) {m : Nat} (hm0 : xh X h = nI m) (hm : m ≤ 6) : Con Λ yX1_differentNumbers wsX1_differentNumbers { frames := 1, cells := 0, slots := 0, locals := 24 } [rf Λ (185 + 2 * h)] (CC Λ X Y) (some (.int (nI (smN (fun v => pcN (orC (hF X h) v m)) 32)))) (CC Λ X Y) := by
  refine con_start (cc := cX1_differentNumbers) (maxL := 3) (ret := (some .int)) (by decide) rfl (Nat.le_of_ble_eq_true rfl) ?_
  intro κ hC hR
  have hC : Ok Λ { frames := 1, cells := 0, slots := 0, locals := 24 } cX1_differentNumbers wsX1_differentNumbers RX1 3 κ := hC
  refine v_args (lv' := [(0, rf Λ (185 + 2 * h))]) rfl ?_
  refine v_iconst (v := 0) hC dX1_differentNumbers_0 (by decide) ?_
  refine v_istore_n (lv' := [(1, .int 0), (0, rf Λ (185 + 2 * h))]) hC dX1_differentNumbers_1 (by decide) rfl ?_
  refine v_iconst (v := 0) hC dX1_differentNumbers_2 (by decide) ?_
  refine v_istore_n (lv' := [(2, .int 0), (1, .int 0), (0, rf Λ (185 + 2 * h))]) hC dX1_differentNumbers_3 (by decide) rfl ?_
  have L4 : ∀ (fu4 : Nat) (b : Nat) (x1 : Int32) (x2 : Int32), b ≤ 32 → x1 = nI (smN (fun v => pcN (orC (hF X h) v m)) b) → x2 = nI b → 32 - b < fu4 → V Λ κ (CC Λ X Y) 4 [(0, rf Λ (185 + 2 * h)), (1, .int x1), (2, .int x2)] [] := by
    intro fu4
    induction fu4 with
    | zero => intro b x1 x2 hb e1 e2 hfu4; exact absurd hfu4 (Nat.not_lt_zero _)
    | succ fu4 ih4 =>
      intro b x1 x2 hb e1 e2 hfu4
      subst e1
      subst e2
      refine v_iload_n hC dX1_differentNumbers_4 2 rfl ?_
      refine v_bipush (v := 32) hC dX1_differentNumbers_5 (by decide) ?_
      refine v_nge (a := b) (b := 32) (tgt := 27) hC dX1_differentNumbers_7 (by decide) rfl rfl (by omega) (by omega) (fun c7 => ?_) (fun c7 => ?_)
      · have c7' := Nat.not_lt.mpr c7
        have e_b : b = 32 := by omega
        subst e_b
        refine v_iload_n hC dX1_differentNumbers_27 1 rfl ?_
        exact v_iret hC hR rfl rfl dX1_differentNumbers_28
      · have c7' := Nat.not_le.mpr c7
        refine v_iload_n hC dX1_differentNumbers_10 1 rfl ?_
        refine v_aload_n hC dX1_differentNumbers_11 0 rfl ?_
        refine v_iload_n hC dX1_differentNumbers_12 2 rfl ?_
        refine v_callVr (v := .long (orC (hF X h) b m)) (C2 := CC Λ X Y) (As := [.int (nI b)]) (rest := [.int (nI (smN (fun v => pcN (orC (hF X h) v m)) b))]) hC 1 (185 + 2 * h) (c_X1_heldByAny Λ X Y (h := h) hh (v := b) hm0 hm (by omega)) (rb_h hh) (cc_h Λ X Y hh) rfl gX1_differentNumbers_X1_heldByAny rfl rfl rfl hd_X1_heldByAny ⟨by decide, by decide⟩ rfl rfl (Nat.le_of_ble_eq_true rfl) dX1_differentNumbers_13 ?_
        refine v_callSr (v := .int (nI (pcN (orC (hF X h) b m)))) (C2 := CC Λ X Y) (As := [.long (orC (hF X h) b m)]) (rest := [.int (nI (smN (fun v => pcN (orC (hF X h) v m)) b))]) hC 1 (c_J13_bitCount_95d88 Λ X Y (x := orC (hF X h) b m)) gX1_differentNumbers_J13_bitCount_95d88 rfl rfl rfl hd_J13_bitCount_95d88 ⟨by decide, by decide⟩ rfl rfl (Nat.le_of_ble_eq_true rfl) dX1_differentNumbers_16 ?_
        have hp16 := pcN_le (orC (hF X h) b m)
        refine v_iadd (x := nI (smN (fun v => pcN (orC (hF X h) v m)) b)) (y := nI (pcN (orC (hF X h) b m))) hC dX1_differentNumbers_19 ?_
        refine v_topi (y := nI (smN (fun v => pcN (orC (hF X h) v m)) b + (pcN (orC (hF X h) b m)))) (nI_add (smN (fun v => pcN (orC (hF X h) v m)) b) (pcN (orC (hF X h) b m))) ?_
        refine v_istore_n (lv' := [(1, .int (nI (smN (fun v => pcN (orC (hF X h) v m)) b + (pcN (orC (hF X h) b m))))), (0, rf Λ (185 + 2 * h)), (2, .int (nI b))]) hC dX1_differentNumbers_20 (by decide) rfl ?_
        refine v_iinc (j := 2) (v := nI (b + 1)) (lv' := [(2, .int (nI (b + 1))), (1, .int (nI (smN (fun v => pcN (orC (hF X h) v m)) b + (pcN (orC (hF X h) b m))))), (0, rf Λ (185 + 2 * h))]) hC dX1_differentNumbers_21 rfl (nI_add b 1) (by decide) rfl ?_
        refine v_goto (tgt := 4) hC dX1_differentNumbers_24 (by decide) ?_
        refine v_sub (lv' := [(0, rf Λ (185 + 2 * h)), (1, .int (nI (smN (fun v => pcN (orC (hF X h) v m)) b + (pcN (orC (hF X h) b m))))), (2, .int (nI (b + 1)))]) [2, 1, 0] rfl ?_
        exact ih4 (b + 1) _ _ (by omega) rfl rfl (by omega)
  refine v_sub (lv' := [(0, rf Λ (185 + 2 * h)), (1, .int 0), (2, .int 0)]) [2, 1, 0] rfl ?_
  exact L4 _ 0 _ _ (by omega) rfl rfl (Nat.lt_succ_self _)
theorem in_X1_holders_X1 : ∀ w ∈ wsX10, w ∈ wsX1_holders := by decide +kernel
theorem fl_X1_holders_18 : Cond.fieldLink RX1 18 "BoatSets$Harbour" "sets" "I" ∈ wsX1_holders := by decide +kernel
theorem fl_X1_holders_11 : Cond.fieldLink RX1 11 "BoatSets$Harbour" "fleets" "[LBoatSets$Fleet;" ∈ wsX1_holders := by decide +kernel
theorem hd_X1_holders : yX1_holders.cls = RX1 ∧ yX1_holders.cls ≠ "java/lang/invoke/MethodHandle" ∧ yX1_holders.cls ≠ "java/lang/invoke/VarHandle" ∧ (parseMethodDescriptor yX1_holders.desc).map (fun d => d.parameters.length) = some 1 := by decide +kernel
set_option maxHeartbeats 400000 in
set_option maxRecDepth 100000 in
theorem c_X1_holders (Λ : Lk) (X : XS) (Y : YS) {h : Nat} (hh : h < 6) {n : Nat} {m : Nat} (hm0 : xh X h = nI m) (hm : m ≤ 6) (hn : n < 2048) : Con Λ yX1_holders wsX1_holders { frames := 2, cells := 0, slots := 0, locals := 41 } [rf Λ (185 + 2 * h), .int (nI n)] (CC Λ X Y) (some (.int (nI (hoC (hF X h) n m)))) (CC Λ X Y) := by
  refine con_start (cc := cX1_holders) (maxL := 4) (ret := (some .int)) (by decide) rfl (Nat.le_of_ble_eq_true rfl) ?_
  intro κ hC hR
  have hC : Ok Λ { frames := 2, cells := 0, slots := 0, locals := 41 } cX1_holders wsX1_holders RX1 4 κ := hC
  refine v_args (lv' := [(0, rf Λ (185 + 2 * h)), (1, .int (nI n))]) rfl ?_
  refine v_iconst (v := 0) hC dX1_holders_0 (by decide) ?_
  refine v_istore_n (lv' := [(2, .int 0), (0, rf Λ (185 + 2 * h)), (1, .int (nI n))]) hC dX1_holders_1 (by decide) rfl ?_
  refine v_iconst (v := 0) hC dX1_holders_2 (by decide) ?_
  refine v_istore_n (lv' := [(3, .int 0), (2, .int 0), (0, rf Λ (185 + 2 * h)), (1, .int (nI n))]) hC dX1_holders_3 (by decide) rfl ?_
  have L4 : ∀ (fu4 : Nat) (j : Nat) (x2 : Int32) (x3 : Int32), j ≤ m → x2 = nI (hoC (hF X h) n j) → x3 = nI j → m - j < fu4 → V Λ κ (CC Λ X Y) 4 [(0, rf Λ (185 + 2 * h)), (1, .int (nI n)), (2, .int x2), (3, .int x3)] [] := by
    intro fu4
    induction fu4 with
    | zero => intro j x2 x3 hj e2 e3 hfu4; exact absurd hfu4 (Nat.not_lt_zero _)
    | succ fu4 ih4 =>
      intro j x2 x3 hj e2 e3 hfu4
      subst e2
      subst e3
      refine v_iload_n hC dX1_holders_4 3 rfl ?_
      refine v_aload_n hC dX1_holders_5 0 rfl ?_
      refine v_get (T := TX1) (N := 2) (v := .int ((xh X) h)) hC (185 + 2 * h) (rb_h hh) (cc_h Λ X Y hh) in_X1_holders_X1 rfl 1 (by decide) fl_X1_holders_18 rfl dX1_holders_6 ?_
      refine v_topi (y := nI m) hm0 ?_
      refine v_nge (a := j) (b := m) (tgt := 39) hC dX1_holders_9 (by decide) rfl rfl (by omega) (by omega) (fun c9 => ?_) (fun c9 => ?_)
      · have c9' := Nat.not_lt.mpr c9
        have e_j : m = j := by omega
        subst e_j
        refine v_iload_n hC dX1_holders_39 2 rfl ?_
        exact v_iret hC hR rfl rfl dX1_holders_40
      · have c9' := Nat.not_le.mpr c9
        refine v_iload_n hC dX1_holders_12 2 rfl ?_
        refine v_aload_n hC dX1_holders_13 0 rfl ?_
        refine v_get (T := TX1) (N := 2) (v := rf Λ (186 + 2 * h)) hC (185 + 2 * h) (rb_h hh) (cc_h Λ X Y hh) in_X1_holders_X1 rfl 0 (by decide) fl_X1_holders_11 rfl dX1_holders_14 ?_
        refine v_iload_n hC dX1_holders_17 3 rfl ?_
        refine v_aald (Cn := "BoatSets$Fleet") (n := 6) (r2 := 5 * (6 * h + j)) hC (186 + 2 * h) (rb_hr hh) 3 rfl (cc_hr Λ X Y hh) j rfl (by omega) (by decide) rfl dX1_holders_18 ?_
        refine v_iload_n hC dX1_holders_19 1 rfl ?_
        refine v_callVr (v := .int (bI (fbit (fw (hF X h j)) n))) (C2 := CC Λ X Y) (As := [.int (nI n)]) (rest := [.int (nI (hoC (hF X h) n j))]) hC 1 (5 * (6 * h + j)) (c_X0_holds Λ X Y (i := (6 * h + j)) (f := (hF X h j)) (by omega) rfl (n := n) (by omega)) (rb_f0 (by omega)) (cc_f0 Λ Y (by omega) rfl) rfl gX1_holders_X0_holds rfl rfl rfl hd_X0_holds ⟨by decide, by decide⟩ rfl rfl (Nat.le_of_ble_eq_true rfl) dX1_holders_20 ?_
        refine v_beq (b := fbit (fw (hF X h j)) n) (tgt := 30) hC dX1_holders_23 (by decide) (fun c23 => ?_) (fun c23 => ?_)
        · skip
          refine v_iconst (v := 0) hC dX1_holders_30 (by decide) ?_
          refine v_iadd (x := nI (hoC (hF X h) n j)) (y := 0) hC dX1_holders_31 ?_
          refine v_topi (y := nI (hoC (hF X h) n j + 0)) (nI_add (hoC (hF X h) n j) 0) ?_
          refine v_istore_n (lv' := [(2, .int (nI (hoC (hF X h) n j + 0))), (0, rf Λ (185 + 2 * h)), (1, .int (nI n)), (3, .int (nI j))]) hC dX1_holders_32 (by decide) rfl ?_
          refine v_iinc (j := 3) (v := nI (j + 1)) (lv' := [(3, .int (nI (j + 1))), (2, .int (nI (hoC (hF X h) n j + 0))), (0, rf Λ (185 + 2 * h)), (1, .int (nI n))]) hC dX1_holders_33 rfl (nI_add j 1) (by decide) rfl ?_
          refine v_goto (tgt := 4) hC dX1_holders_36 (by decide) ?_
          refine v_sub (lv' := [(0, rf Λ (185 + 2 * h)), (1, .int (nI n)), (2, .int (nI (hoC (hF X h) n j + 0))), (3, .int (nI (j + 1)))]) [2, 3, 1, 0] rfl ?_
          exact ih4 (j + 1) _ _ (by omega) (by simp [hoC, c9, c9', c23]) rfl (by omega)
        · skip
          refine v_iconst (v := 1) hC dX1_holders_26 (by decide) ?_
          refine v_goto (tgt := 31) hC dX1_holders_27 (by decide) ?_
          refine v_iadd (x := nI (hoC (hF X h) n j)) (y := 1) hC dX1_holders_31 ?_
          refine v_topi (y := nI (hoC (hF X h) n j + 1)) (nI_add (hoC (hF X h) n j) 1) ?_
          refine v_istore_n (lv' := [(2, .int (nI (hoC (hF X h) n j + 1))), (0, rf Λ (185 + 2 * h)), (1, .int (nI n)), (3, .int (nI j))]) hC dX1_holders_32 (by decide) rfl ?_
          refine v_iinc (j := 3) (v := nI (j + 1)) (lv' := [(3, .int (nI (j + 1))), (2, .int (nI (hoC (hF X h) n j + 1))), (0, rf Λ (185 + 2 * h)), (1, .int (nI n))]) hC dX1_holders_33 rfl (nI_add j 1) (by decide) rfl ?_
          refine v_goto (tgt := 4) hC dX1_holders_36 (by decide) ?_
          refine v_sub (lv' := [(0, rf Λ (185 + 2 * h)), (1, .int (nI n)), (2, .int (nI (hoC (hF X h) n j + 1))), (3, .int (nI (j + 1)))]) [2, 3, 1, 0] rfl ?_
          exact ih4 (j + 1) _ _ (by omega) (by simp [hoC, c9, c9', c23]) rfl (by omega)
  refine v_sub (lv' := [(0, rf Λ (185 + 2 * h)), (1, .int (nI n)), (2, .int 0), (3, .int 0)]) [2, 3, 1, 0] rfl ?_
  exact L4 _ 0 _ _ (by omega) rfl rfl (Nat.lt_succ_self _)
theorem hd_X1_mostHeld : yX1_mostHeld.cls = RX1 ∧ yX1_mostHeld.cls ≠ "java/lang/invoke/MethodHandle" ∧ yX1_mostHeld.cls ≠ "java/lang/invoke/VarHandle" ∧ (parseMethodDescriptor yX1_mostHeld.desc).map (fun d => d.parameters.length) = some 0 := by decide +kernel
set_option maxHeartbeats 400000 in
set_option maxRecDepth 100000 in
theorem c_X1_mostHeld (Λ : Lk) (X : XS) (Y : YS) {h : Nat} (hh : h < 6) {m : Nat} (hm0 : xh X h = nI m) (hm : m ≤ 6) : Con Λ yX1_mostHeld wsX1_mostHeld { frames := 3, cells := 0, slots := 0, locals := 64 } [rf Λ (185 + 2 * h)] (CC Λ X Y) (some (.int (mhO (hF X h) m 32 0 (-5) 0))) (CC Λ X Y) := by
  refine con_start (cc := cX1_mostHeld) (maxL := 8) (ret := (some .int)) (by decide) rfl (Nat.le_of_ble_eq_true rfl) ?_
  intro κ hC hR
  have hC : Ok Λ { frames := 3, cells := 0, slots := 0, locals := 64 } cX1_mostHeld wsX1_mostHeld RX1 8 κ := hC
  refine v_args (lv' := [(0, rf Λ (185 + 2 * h))]) rfl ?_
  refine v_bipush (v := (-5)) hC dX1_mostHeld_0 (by decide) ?_
  refine v_istore_n (lv' := [(1, .int (-5)), (0, rf Λ (185 + 2 * h))]) hC dX1_mostHeld_2 (by decide) rfl ?_
  refine v_iconst (v := 0) hC dX1_mostHeld_3 (by decide) ?_
  refine v_istore_n (lv' := [(2, .int 0), (1, .int (-5)), (0, rf Λ (185 + 2 * h))]) hC dX1_mostHeld_4 (by decide) rfl ?_
  refine v_iconst (v := 0) hC dX1_mostHeld_5 (by decide) ?_
  refine v_istore_n (lv' := [(3, .int 0), (2, .int 0), (1, .int (-5)), (0, rf Λ (185 + 2 * h))]) hC dX1_mostHeld_6 (by decide) rfl ?_
  have L7 : ∀ (fu7 : Nat) (v : Nat) (f : Int32) (t : Nat) (x2 : Int32) (x3 : Int32), v ≤ 32 → t ≤ 6 → mhO (hF X h) m (32 - v) v f t = mhO (hF X h) m 32 0 (-5) 0 → x2 = nI t → x3 = nI v → 32 - v < fu7 → V Λ κ (CC Λ X Y) 7 [(0, rf Λ (185 + 2 * h)), (1, .int f), (2, .int x2), (3, .int x3)] [] := by
    intro fu7
    induction fu7 with
    | zero => intro v f t x2 x3 hv ht hr e2 e3 hfu7; exact absurd hfu7 (Nat.not_lt_zero _)
    | succ fu7 ih7 =>
      intro v f t x2 x3 hv ht hr e2 e3 hfu7
      subst e2
      subst e3
      refine v_iload_n hC dX1_mostHeld_7 3 rfl ?_
      refine v_bipush (v := 32) hC dX1_mostHeld_8 (by decide) ?_
      refine v_nge (a := v) (b := 32) (tgt := 82) hC dX1_mostHeld_10 (by decide) rfl rfl (by omega) (by omega) (fun c10 => ?_) (fun c10 => ?_)
      · have c10' := Nat.not_lt.mpr c10
        refine v_iload_n hC dX1_mostHeld_82 1 rfl ?_
        exact v_iret hC hR (congrArg (fun z : Int32 => some (Value.int z)) (by rw [← hr, show 32 - v = 0 by omega]; rfl)) rfl dX1_mostHeld_83
      · have c10' := Nat.not_le.mpr c10
        have J29 : ∀ (e : Nat) (y0 : Int32), e = lkE (hF X h) m v → y0 = nI e → V Λ κ (CC Λ X Y) 29 [(0, rf Λ (185 + 2 * h)), (1, .int f), (2, .int (nI t)), (3, .int (nI v))] [.int y0] := by
          intro e y0 he f0
          subst f0
          have he2 := lkE_le (hF X h) m v
          refine v_istore (lv' := [(4, .int (nI e)), (0, rf Λ (185 + 2 * h)), (1, .int f), (2, .int (nI t)), (3, .int (nI v))]) hC dX1_mostHeld_29 (by decide) rfl ?_
          refine v_iconst (v := 0) hC dX1_mostHeld_31 (by decide) ?_
          refine v_istore (lv' := [(5, .int 0), (4, .int (nI e)), (0, rf Λ (185 + 2 * h)), (1, .int f), (2, .int (nI t)), (3, .int (nI v))]) hC dX1_mostHeld_32 (by decide) rfl ?_
          have L34 : ∀ (fu34 : Nat) (k : Nat) (f2 : Int32) (t2 : Nat) (x2 : Int32) (x5 : Int32), k ≤ e → t2 ≤ 6 → mhI (hF X h) m v (e - k) k f2 t2 = mhI (hF X h) m v e 0 f t → x2 = nI t2 → x5 = nI k → e - k < fu34 → V Λ κ (CC Λ X Y) 34 [(0, rf Λ (185 + 2 * h)), (1, .int f2), (2, .int x2), (3, .int (nI v)), (4, .int (nI e)), (5, .int x5)] [] := by
            intro fu34
            induction fu34 with
            | zero => intro k f2 t2 x2 x5 hk ht2 hr2 e2 e5 hfu34; exact absurd hfu34 (Nat.not_lt_zero _)
            | succ fu34 ih34 =>
              intro k f2 t2 x2 x5 hk ht2 hr2 e2 e5 hfu34
              subst e2
              subst e5
              refine v_iload hC dX1_mostHeld_34 5 rfl ?_
              refine v_iload hC dX1_mostHeld_36 4 rfl ?_
              refine v_nge (a := k) (b := e) (tgt := 76) hC dX1_mostHeld_38 (by decide) rfl rfl (by omega) (by omega) (fun c38 => ?_) (fun c38 => ?_)
              · have c38' := Nat.not_lt.mpr c38
                refine v_iinc (j := 3) (v := nI (v + 1)) (lv' := [(3, .int (nI (v + 1))), (0, rf Λ (185 + 2 * h)), (1, .int f2), (2, .int (nI t2)), (4, .int (nI e)), (5, .int (nI k))]) hC dX1_mostHeld_76 rfl (nI_add v 1) (by decide) rfl ?_
                refine v_goto (tgt := 7) hC dX1_mostHeld_79 (by decide) ?_
                refine v_sub (lv' := [(0, rf Λ (185 + 2 * h)), (1, .int f2), (2, .int (nI t2)), (3, .int (nI (v + 1)))]) [1, 2, 3, 0] rfl ?_
                exact ih7 (v + 1) f2 t2 _ _ (by omega) (by omega) (by rw [← hr, show 32 - v = (32 - (v + 1)) + 1 by omega, mhO, ← he, ← hr2, show e - k = 0 by omega]; rfl) rfl rfl (by omega)
              · have c38' := Nat.not_le.mpr c38
                refine v_iload_n hC dX1_mostHeld_41 3 rfl ?_
                refine v_bipush (v := 64) hC dX1_mostHeld_42 (by decide) ?_
                refine v_imul (x := nI v) (y := 64) hC dX1_mostHeld_44 ?_
                refine v_topi (y := nI (v * 64)) (pk_mul v 64) ?_
                refine v_iload hC dX1_mostHeld_45 5 rfl ?_
                refine v_iadd (x := nI (v * 64)) (y := nI k) hC dX1_mostHeld_47 ?_
                refine v_topi (y := nI (v * 64 + k)) (nI_add (v * 64) k) ?_
                refine v_istore (lv' := [(6, .int (nI (v * 64 + k))), (0, rf Λ (185 + 2 * h)), (1, .int f2), (2, .int (nI t2)), (3, .int (nI v)), (4, .int (nI e)), (5, .int (nI k))]) hC dX1_mostHeld_48 (by decide) rfl ?_
                refine v_aload_n hC dX1_mostHeld_50 1 rfl ?_
                refine v_iload hC dX1_mostHeld_51 0 rfl ?_
                refine v_callVr (v := .int (nI (hoC (hF X h) (v * 64 + k) m))) (C2 := CC Λ X Y) (As := [.int (nI (v * 64 + k))]) (rest := []) hC 1 (185 + 2 * h) (c_X1_holders Λ X Y (h := h) hh (n := v * 64 + k) hm0 hm (by omega)) (rb_h hh) (cc_h Λ X Y hh) rfl gX1_mostHeld_X1_holders rfl rfl rfl hd_X1_holders ⟨by decide, by decide⟩ rfl rfl (Nat.le_of_ble_eq_true rfl) dX1_mostHeld_53 ?_
                have ho53 := hoC_le (hF X h) (v * 64 + k) m
                refine v_istore (lv' := [(7, .int (nI (hoC (hF X h) (v * 64 + k) m))), (6, .int (nI (v * 64 + k))), (0, rf Λ (185 + 2 * h)), (1, .int f2), (2, .int (nI t2)), (3, .int (nI v)), (4, .int (nI e)), (5, .int (nI k))]) hC dX1_mostHeld_56 (by decide) rfl ?_
                refine v_iload hC dX1_mostHeld_58 0 rfl ?_
                refine v_iload_n hC dX1_mostHeld_60 4 rfl ?_
                refine v_nle (a := hoC (hF X h) (v * 64 + k) m) (b := t2) (tgt := 70) hC dX1_mostHeld_61 (by decide) rfl rfl (by omega) (by omega) (fun c61 => ?_) (fun c61 => ?_)
                · have c61' := Nat.not_lt.mpr c61
                  refine v_iinc (j := 7) (v := nI (k + 1)) (lv' := [(5, .int (nI (k + 1))), (7, .int (nI (hoC (hF X h) (v * 64 + k) m))), (6, .int (nI (v * 64 + k))), (0, rf Λ (185 + 2 * h)), (1, .int f2), (2, .int (nI t2)), (3, .int (nI v)), (4, .int (nI e))]) hC dX1_mostHeld_70 rfl (nI_add k 1) (by decide) rfl ?_
                  refine v_goto (tgt := 34) hC dX1_mostHeld_73 (by decide) ?_
                  refine v_sub (lv' := [(0, rf Λ (185 + 2 * h)), (1, .int f2), (2, .int (nI t2)), (3, .int (nI v)), (4, .int (nI e)), (5, .int (nI (k + 1)))]) [3, 4, 5, 6, 7, 0] rfl ?_
                  exact ih34 (k + 1) f2 t2 _ _ (by omega) (by omega) (by rw [← hr2, show e - k = (e - (k + 1)) + 1 by omega, mhI, if_neg (by omega)]) rfl rfl (by omega)
                · have c61' := Nat.not_le.mpr c61
                  refine v_iload hC dX1_mostHeld_64 1 rfl ?_
                  refine v_istore_n (lv' := [(1, .int (nI (v * 64 + k))), (7, .int (nI (hoC (hF X h) (v * 64 + k) m))), (6, .int (nI (v * 64 + k))), (0, rf Λ (185 + 2 * h)), (2, .int (nI t2)), (3, .int (nI v)), (4, .int (nI e)), (5, .int (nI k))]) hC dX1_mostHeld_66 (by decide) rfl ?_
                  refine v_iload hC dX1_mostHeld_67 1 rfl ?_
                  refine v_istore_n (lv' := [(2, .int (nI (hoC (hF X h) (v * 64 + k) m))), (1, .int (nI (v * 64 + k))), (7, .int (nI (hoC (hF X h) (v * 64 + k) m))), (6, .int (nI (v * 64 + k))), (0, rf Λ (185 + 2 * h)), (3, .int (nI v)), (4, .int (nI e)), (5, .int (nI k))]) hC dX1_mostHeld_69 (by decide) rfl ?_
                  refine v_iinc (j := 7) (v := nI (k + 1)) (lv' := [(5, .int (nI (k + 1))), (2, .int (nI (hoC (hF X h) (v * 64 + k) m))), (1, .int (nI (v * 64 + k))), (7, .int (nI (hoC (hF X h) (v * 64 + k) m))), (6, .int (nI (v * 64 + k))), (0, rf Λ (185 + 2 * h)), (3, .int (nI v)), (4, .int (nI e))]) hC dX1_mostHeld_70 rfl (nI_add k 1) (by decide) rfl ?_
                  refine v_goto (tgt := 34) hC dX1_mostHeld_73 (by decide) ?_
                  refine v_sub (lv' := [(0, rf Λ (185 + 2 * h)), (1, .int (nI (v * 64 + k))), (2, .int (nI (hoC (hF X h) (v * 64 + k) m))), (3, .int (nI v)), (4, .int (nI e)), (5, .int (nI (k + 1)))]) [5, 2, 1, 6, 7, 0] rfl ?_
                  exact ih34 (k + 1) (nI (v * 64 + k)) (hoC (hF X h) (v * 64 + k) m) _ _ (by omega) (by omega) (by rw [← hr2, show e - k = (e - (k + 1)) + 1 by omega, mhI, if_pos (by omega)]) rfl rfl (by omega)
          refine v_sub (lv' := [(0, rf Λ (185 + 2 * h)), (1, .int f), (2, .int (nI t)), (3, .int (nI v)), (4, .int (nI e)), (5, .int 0)]) [2, 3, 4, 5, 1, 0] rfl ?_
          exact L34 _ 0 f t _ _ (by omega) (by omega) rfl rfl rfl (Nat.lt_succ_self _)
        refine v_aload_n hC dX1_mostHeld_13 0 rfl ?_
        refine v_iload_n hC dX1_mostHeld_14 3 rfl ?_
        refine v_callVr (v := .long (orC (hF X h) v m)) (C2 := CC Λ X Y) (As := [.int (nI v)]) (rest := []) hC 1 (185 + 2 * h) (c_X1_heldByAny Λ X Y (h := h) hh (v := v) hm0 hm (by omega)) (rb_h hh) (cc_h Λ X Y hh) rfl gX1_mostHeld_X1_heldByAny rfl rfl rfl hd_X1_heldByAny ⟨by decide, by decide⟩ rfl rfl (Nat.le_of_ble_eq_true rfl) dX1_mostHeld_15 ?_
        refine v_lconst (v := 0) hC dX1_mostHeld_18 (by decide) ?_
        refine v_lcmp hC dX1_mostHeld_19 ?_
        refine v_if_ne (tgt := 27) hC dX1_mostHeld_20 (by decide) (fun c20 => ?_) (fun c20 => ?_)
        · skip
          refine v_bipush (v := 64) hC dX1_mostHeld_27 (by decide) ?_
          refine v_sub (lv' := [(0, rf Λ (185 + 2 * h)), (1, .int f), (2, .int (nI t)), (3, .int (nI v))]) [0, 1, 2, 3] rfl ?_
          exact J29 64 _ (lkE_1 c20) rfl
        · skip
          refine v_iconst (v := 0) hC dX1_mostHeld_23 (by decide) ?_
          refine v_goto (tgt := 29) hC dX1_mostHeld_24 (by decide) ?_
          refine v_sub (lv' := [(0, rf Λ (185 + 2 * h)), (1, .int f), (2, .int (nI t)), (3, .int (nI v))]) [0, 1, 2, 3] rfl ?_
          exact J29 0 _ (lkE_0 c20) rfl
  refine v_sub (lv' := [(0, rf Λ (185 + 2 * h)), (1, .int (-5)), (2, .int 0), (3, .int 0)]) [3, 2, 1, 0] rfl ?_
  exact L7 _ 0 (-5) 0 _ _ (by omega) (by omega) rfl rfl rfl (Nat.lt_succ_self _)
theorem hd_X1_numberOfAll : yX1_numberOfAll.cls = RX1 ∧ yX1_numberOfAll.cls ≠ "java/lang/invoke/MethodHandle" ∧ yX1_numberOfAll.cls ≠ "java/lang/invoke/VarHandle" ∧ (parseMethodDescriptor yX1_numberOfAll.desc).map (fun d => d.parameters.length) = some 1 := by decide +kernel
set_option maxHeartbeats 400000 in
set_option maxRecDepth 100000 in
theorem c_X1_numberOfAll (Λ : Lk) (X : XS) (Y : YS) {h : Nat} (hh : h < 6) {p : Int32} {m : Nat} (hm0 : xh X h = nI m) (hm : m ≤ 6) : Con Λ yX1_numberOfAll wsX1_numberOfAll { frames := 3, cells := 0, slots := 0, locals := 64 } [rf Λ (185 + 2 * h), .int p] (CC Λ X Y) (some (.int (naO (hF X h) m 32 0 p))) (CC Λ X Y) := by
  refine con_start (cc := cX1_numberOfAll) (maxL := 7) (ret := (some .int)) (by decide) rfl (Nat.le_of_ble_eq_true rfl) ?_
  intro κ hC hR
  have hC : Ok Λ { frames := 3, cells := 0, slots := 0, locals := 64 } cX1_numberOfAll wsX1_numberOfAll RX1 7 κ := hC
  refine v_args (lv' := [(0, rf Λ (185 + 2 * h)), (1, .int p)]) rfl ?_
  refine v_iload_n hC dX1_numberOfAll_0 1 rfl ?_
  refine v_istore_n (lv' := [(2, .int p), (0, rf Λ (185 + 2 * h)), (1, .int p)]) hC dX1_numberOfAll_1 (by decide) rfl ?_
  refine v_iconst (v := 0) hC dX1_numberOfAll_2 (by decide) ?_
  refine v_istore_n (lv' := [(3, .int 0), (2, .int p), (0, rf Λ (185 + 2 * h)), (1, .int p)]) hC dX1_numberOfAll_3 (by decide) rfl ?_
  have L4 : ∀ (fu4 : Nat) (v : Nat) (l : Int32) (x3 : Int32), v ≤ 32 → naO (hF X h) m (32 - v) v l = naO (hF X h) m 32 0 p → x3 = nI v → 32 - v < fu4 → V Λ κ (CC Λ X Y) 4 [(0, rf Λ (185 + 2 * h)), (1, .int p), (2, .int l), (3, .int x3)] [] := by
    intro fu4
    induction fu4 with
    | zero => intro v l x3 hv hr e3 hfu4; exact absurd hfu4 (Nat.not_lt_zero _)
    | succ fu4 ih4 =>
      intro v l x3 hv hr e3 hfu4
      subst e3
      refine v_iload_n hC dX1_numberOfAll_4 3 rfl ?_
      refine v_bipush (v := 32) hC dX1_numberOfAll_5 (by decide) ?_
      refine v_nge (a := v) (b := 32) (tgt := 75) hC dX1_numberOfAll_7 (by decide) rfl rfl (by omega) (by omega) (fun c7 => ?_) (fun c7 => ?_)
      · have c7' := Nat.not_lt.mpr c7
        refine v_bipush (v := (-5)) hC dX1_numberOfAll_75 (by decide) ?_
        exact v_iret hC hR (congrArg (fun z : Int32 => some (Value.int z)) (by rw [← hr, show 32 - v = 0 by omega]; rfl)) rfl dX1_numberOfAll_77
      · have c7' := Nat.not_le.mpr c7
        have J26 : ∀ (e : Nat) (y0 : Int32), e = lkE (hF X h) m v → y0 = nI e → V Λ κ (CC Λ X Y) 26 [(0, rf Λ (185 + 2 * h)), (1, .int p), (2, .int l), (3, .int (nI v))] [.int y0] := by
          intro e y0 he f0
          subst f0
          have he2 := lkE_le (hF X h) m v
          refine v_istore (lv' := [(4, .int (nI e)), (0, rf Λ (185 + 2 * h)), (1, .int p), (2, .int l), (3, .int (nI v))]) hC dX1_numberOfAll_26 (by decide) rfl ?_
          refine v_iconst (v := 0) hC dX1_numberOfAll_28 (by decide) ?_
          refine v_istore (lv' := [(5, .int 0), (4, .int (nI e)), (0, rf Λ (185 + 2 * h)), (1, .int p), (2, .int l), (3, .int (nI v))]) hC dX1_numberOfAll_29 (by decide) rfl ?_
          have L31 : ∀ (fu31 : Nat) (k : Nat) (l2 : Int32) (x5 : Int32), k ≤ e → naI (hF X h) m v (e - k) k l2 = naI (hF X h) m v e 0 l → x5 = nI k → e - k < fu31 → V Λ κ (CC Λ X Y) 31 [(0, rf Λ (185 + 2 * h)), (1, .int p), (2, .int l2), (3, .int (nI v)), (4, .int (nI e)), (5, .int x5)] [] := by
            intro fu31
            induction fu31 with
            | zero => intro k l2 x5 hk hr2 e5 hfu31; exact absurd hfu31 (Nat.not_lt_zero _)
            | succ fu31 ih31 =>
              intro k l2 x5 hk hr2 e5 hfu31
              subst e5
              refine v_iload hC dX1_numberOfAll_31 5 rfl ?_
              refine v_iload hC dX1_numberOfAll_33 4 rfl ?_
              refine v_nge (a := k) (b := e) (tgt := 69) hC dX1_numberOfAll_35 (by decide) rfl rfl (by omega) (by omega) (fun c35 => ?_) (fun c35 => ?_)
              · have c35' := Nat.not_lt.mpr c35
                refine v_iinc (j := 3) (v := nI (v + 1)) (lv' := [(3, .int (nI (v + 1))), (0, rf Λ (185 + 2 * h)), (1, .int p), (2, .int l2), (4, .int (nI e)), (5, .int (nI k))]) hC dX1_numberOfAll_69 rfl (nI_add v 1) (by decide) rfl ?_
                refine v_goto (tgt := 4) hC dX1_numberOfAll_72 (by decide) ?_
                refine v_sub (lv' := [(0, rf Λ (185 + 2 * h)), (1, .int p), (2, .int l2), (3, .int (nI (v + 1)))]) [1, 2, 3, 0] rfl ?_
                exact ih4 (v + 1) l2 _ (by omega) (by rw [← hr, show 32 - v = (32 - (v + 1)) + 1 by omega, naO, ← he, ← hr2, show e - k = 0 by omega]; rfl) rfl (by omega)
              · have c35' := Nat.not_le.mpr c35
                refine v_iload_n hC dX1_numberOfAll_38 3 rfl ?_
                refine v_bipush (v := 64) hC dX1_numberOfAll_39 (by decide) ?_
                refine v_imul (x := nI v) (y := 64) hC dX1_numberOfAll_41 ?_
                refine v_topi (y := nI (v * 64)) (pk_mul v 64) ?_
                refine v_iload hC dX1_numberOfAll_42 5 rfl ?_
                refine v_iadd (x := nI (v * 64)) (y := nI k) hC dX1_numberOfAll_44 ?_
                refine v_topi (y := nI (v * 64 + k)) (nI_add (v * 64) k) ?_
                refine v_istore (lv' := [(6, .int (nI (v * 64 + k))), (0, rf Λ (185 + 2 * h)), (1, .int p), (2, .int l2), (3, .int (nI v)), (4, .int (nI e)), (5, .int (nI k))]) hC dX1_numberOfAll_45 (by decide) rfl ?_
                refine v_iload_n hC dX1_numberOfAll_47 3 rfl ?_
                refine v_aload_n hC dX1_numberOfAll_48 1 rfl ?_
                refine v_iload hC dX1_numberOfAll_49 0 rfl ?_
                refine v_callVr (v := .int (nI (hoC (hF X h) (v * 64 + k) m))) (C2 := CC Λ X Y) (As := [.int (nI (v * 64 + k))]) (rest := [.int l2]) hC 1 (185 + 2 * h) (c_X1_holders Λ X Y (h := h) hh (n := v * 64 + k) hm0 hm (by omega)) (rb_h hh) (cc_h Λ X Y hh) rfl gX1_numberOfAll_X1_holders rfl rfl rfl hd_X1_holders ⟨by decide, by decide⟩ rfl rfl (Nat.le_of_ble_eq_true rfl) dX1_numberOfAll_51 ?_
                have ho51 := hoC_le (hF X h) (v * 64 + k) m
                refine v_isub (x := l2) (y := nI (hoC (hF X h) (v * 64 + k) m)) hC dX1_numberOfAll_54 ?_
                refine v_istore_n (lv' := [(2, .int (l2 - (nI (hoC (hF X h) (v * 64 + k) m)))), (6, .int (nI (v * 64 + k))), (0, rf Λ (185 + 2 * h)), (1, .int p), (3, .int (nI v)), (4, .int (nI e)), (5, .int (nI k))]) hC dX1_numberOfAll_55 (by decide) rfl ?_
                refine v_iload_n hC dX1_numberOfAll_56 0 rfl ?_
                refine v_if_ge (tgt := 63) hC dX1_numberOfAll_57 (by decide) (fun c57 => ?_) (fun c57 => ?_)
                · have c57' := Int32.not_lt.mpr c57
                  refine v_iinc (j := 6) (v := nI (k + 1)) (lv' := [(5, .int (nI (k + 1))), (2, .int (l2 - (nI (hoC (hF X h) (v * 64 + k) m)))), (6, .int (nI (v * 64 + k))), (0, rf Λ (185 + 2 * h)), (1, .int p), (3, .int (nI v)), (4, .int (nI e))]) hC dX1_numberOfAll_63 rfl (nI_add k 1) (by decide) rfl ?_
                  refine v_goto (tgt := 31) hC dX1_numberOfAll_66 (by decide) ?_
                  refine v_sub (lv' := [(0, rf Λ (185 + 2 * h)), (1, .int p), (2, .int (l2 - (nI (hoC (hF X h) (v * 64 + k) m)))), (3, .int (nI v)), (4, .int (nI e)), (5, .int (nI (k + 1)))]) [3, 4, 1, 5, 6, 0] rfl ?_
                  exact ih31 (k + 1) (l2 - nI (hoC (hF X h) (v * 64 + k) m)) _ (by omega) (by rw [← hr2, show e - k = (e - (k + 1)) + 1 by omega, naI, if_neg c57']) rfl (by omega)
                · have c57' := Int32.not_le.mp c57
                  refine v_iload hC dX1_numberOfAll_60 1 rfl ?_
                  exact v_iret hC hR (congrArg (fun z : Int32 => some (Value.int z)) (by rw [← hr, show 32 - v = (32 - (v + 1)) + 1 by omega, naO, ← he, ← hr2, show e - k = (e - (k + 1)) + 1 by omega, naI, if_pos c57', if_neg (nI_m5 (by omega))])) rfl dX1_numberOfAll_62
          refine v_sub (lv' := [(0, rf Λ (185 + 2 * h)), (1, .int p), (2, .int l), (3, .int (nI v)), (4, .int (nI e)), (5, .int 0)]) [2, 3, 4, 5, 1, 0] rfl ?_
          exact L31 _ 0 l _ (by omega) rfl rfl (Nat.lt_succ_self _)
        refine v_aload_n hC dX1_numberOfAll_10 0 rfl ?_
        refine v_iload_n hC dX1_numberOfAll_11 3 rfl ?_
        refine v_callVr (v := .long (orC (hF X h) v m)) (C2 := CC Λ X Y) (As := [.int (nI v)]) (rest := []) hC 1 (185 + 2 * h) (c_X1_heldByAny Λ X Y (h := h) hh (v := v) hm0 hm (by omega)) (rb_h hh) (cc_h Λ X Y hh) rfl gX1_numberOfAll_X1_heldByAny rfl rfl rfl hd_X1_heldByAny ⟨by decide, by decide⟩ rfl rfl (Nat.le_of_ble_eq_true rfl) dX1_numberOfAll_12 ?_
        refine v_lconst (v := 0) hC dX1_numberOfAll_15 (by decide) ?_
        refine v_lcmp hC dX1_numberOfAll_16 ?_
        refine v_if_ne (tgt := 24) hC dX1_numberOfAll_17 (by decide) (fun c17 => ?_) (fun c17 => ?_)
        · skip
          refine v_bipush (v := 64) hC dX1_numberOfAll_24 (by decide) ?_
          refine v_sub (lv' := [(0, rf Λ (185 + 2 * h)), (1, .int p), (2, .int l), (3, .int (nI v))]) [0, 1, 2, 3] rfl ?_
          exact J26 64 _ (lkE_1 c17) rfl
        · skip
          refine v_iconst (v := 0) hC dX1_numberOfAll_20 (by decide) ?_
          refine v_goto (tgt := 26) hC dX1_numberOfAll_21 (by decide) ?_
          refine v_sub (lv' := [(0, rf Λ (185 + 2 * h)), (1, .int p), (2, .int l), (3, .int (nI v))]) [0, 1, 2, 3] rfl ?_
          exact J26 0 _ (lkE_0 c17) rfl
  refine v_sub (lv' := [(0, rf Λ (185 + 2 * h)), (1, .int p), (2, .int p), (3, .int 0)]) [2, 3, 1, 0] rfl ?_
  exact L4 _ 0 p _ (by omega) rfl rfl (Nat.lt_succ_self _)
