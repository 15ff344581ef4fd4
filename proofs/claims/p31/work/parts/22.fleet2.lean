theorem in_X0_numbers_X0 : ∀ w ∈ wsX00, w ∈ wsX0_numbers := by decide +kernel
theorem fl_X0_numbers_19 : Cond.fieldLink RX0 19 "BoatSets$Fleet" "sizes" "[I" ∈ wsX0_numbers := by decide +kernel
theorem hd_X0_numbers : yX0_numbers.cls = RX0 ∧ yX0_numbers.cls ≠ "java/lang/invoke/MethodHandle" ∧ yX0_numbers.cls ≠ "java/lang/invoke/VarHandle" ∧ (parseMethodDescriptor yX0_numbers.desc).map (fun d => d.parameters.length) = some 0 := by decide +kernel
set_option maxHeartbeats 400000 in
set_option maxRecDepth 100000 in
theorem c_X0_numbers (Λ : Lk) (X : XS) (Y : YS) {i : Nat} {f : FR} (hi : i < 37) (hf : X.1 i = f) : Con Λ yX0_numbers wsX0_numbers { frames := 0, cells := 0, slots := 0, locals := 0 } [rf Λ (5 * i)] (CC Λ X Y) (some (.int (sumI (fs f) 8))) (CC Λ X Y) := by
  refine con_start (cc := cX0_numbers) (maxL := 3) (ret := (some .int)) (by decide) rfl (Nat.le_of_ble_eq_true rfl) ?_
  intro κ hC hR
  have hC : Ok Λ { frames := 0, cells := 0, slots := 0, locals := 0 } cX0_numbers wsX0_numbers RX0 3 κ := hC
  refine v_args (lv' := [(0, rf Λ (5 * i))]) rfl ?_
  refine v_iconst (v := 0) hC dX0_numbers_0 (by decide) ?_
  refine v_istore_n (lv' := [(1, .int 0), (0, rf Λ (5 * i))]) hC dX0_numbers_1 (by decide) rfl ?_
  refine v_iconst (v := 0) hC dX0_numbers_2 (by decide) ?_
  refine v_istore_n (lv' := [(2, .int 0), (1, .int 0), (0, rf Λ (5 * i))]) hC dX0_numbers_3 (by decide) rfl ?_
  have L4 : ∀ (fu4 : Nat) (b : Nat) (x1 : Int32) (x2 : Int32), b ≤ 8 → x1 = sumI (fs f) b → x2 = nI b → 8 - b < fu4 → V Λ κ (CC Λ X Y) 4 [(0, rf Λ (5 * i)), (1, .int x1), (2, .int x2)] [] := by
    intro fu4
    induction fu4 with
    | zero => intro b x1 x2 hb e1 e2 hfu4; exact absurd hfu4 (Nat.not_lt_zero _)
    | succ fu4 ih4 =>
      intro b x1 x2 hb e1 e2 hfu4
      subst e1
      subst e2
      refine v_iload_n hC dX0_numbers_4 2 rfl ?_
      refine v_bipush (v := 8) hC dX0_numbers_5 (by decide) ?_
      refine v_nge (a := b) (b := 8) (tgt := 25) hC dX0_numbers_7 (by decide) rfl rfl (by omega) (by omega) (fun c7 => ?_) (fun c7 => ?_)
      · have c7' := Nat.not_lt.mpr c7
        have e_b : b = 8 := by omega
        subst e_b
        refine v_iload_n hC dX0_numbers_25 1 rfl ?_
        exact v_iret hC hR rfl rfl dX0_numbers_26
      · have c7' := Nat.not_le.mpr c7
        refine v_iload_n hC dX0_numbers_10 1 rfl ?_
        refine v_aload_n hC dX0_numbers_11 0 rfl ?_
        refine v_get (T := TX0) (N := 7) (v := rf Λ (5 * i + 3)) hC (5 * i) (rb_f0 hi) (cc_f0 Λ Y hi hf) in_X0_numbers_X0 rfl 2 (by decide) fl_X0_numbers_19 rfl dX0_numbers_12 ?_
        refine v_iload_n hC dX0_numbers_15 2 rfl ?_
        refine v_iald (n := 8) (f := (fs f)) hC (5 * i + 3) (rb_f hi (by decide)) (cc_f3 Λ Y hi hf) b rfl (by omega) (by decide) dX0_numbers_16 ?_
        refine v_iadd (x := sumI (fs f) b) (y := (fs f) b) hC dX0_numbers_17 ?_
        refine v_istore_n (lv' := [(1, .int ((sumI (fs f) b) + ((fs f) b))), (0, rf Λ (5 * i)), (2, .int (nI b))]) hC dX0_numbers_18 (by decide) rfl ?_
        refine v_iinc (j := 2) (v := nI (b + 1)) (lv' := [(2, .int (nI (b + 1))), (1, .int ((sumI (fs f) b) + ((fs f) b))), (0, rf Λ (5 * i))]) hC dX0_numbers_19 rfl (nI_add b 1) (by decide) rfl ?_
        refine v_goto (tgt := 4) hC dX0_numbers_22 (by decide) ?_
        refine v_sub (lv' := [(0, rf Λ (5 * i)), (1, .int ((sumI (fs f) b) + ((fs f) b))), (2, .int (nI (b + 1)))]) [2, 1, 0] rfl ?_
        exact ih4 (b + 1) _ _ (by omega) rfl rfl (by omega)
  refine v_sub (lv' := [(0, rf Λ (5 * i)), (1, .int 0), (2, .int 0)]) [2, 1, 0] rfl ?_
  exact L4 _ 0 _ _ (by omega) rfl rfl (Nat.lt_succ_self _)
theorem in_X0_allRuns_X0 : ∀ w ∈ wsX00, w ∈ wsX0_allRuns := by decide +kernel
theorem fl_X0_allRuns_22 : Cond.fieldLink RX0 22 "BoatSets$Fleet" "runs" "[I" ∈ wsX0_allRuns := by decide +kernel
theorem hd_X0_allRuns : yX0_allRuns.cls = RX0 ∧ yX0_allRuns.cls ≠ "java/lang/invoke/MethodHandle" ∧ yX0_allRuns.cls ≠ "java/lang/invoke/VarHandle" ∧ (parseMethodDescriptor yX0_allRuns.desc).map (fun d => d.parameters.length) = some 0 := by decide +kernel
set_option maxHeartbeats 400000 in
set_option maxRecDepth 100000 in
theorem c_X0_allRuns (Λ : Lk) (X : XS) (Y : YS) {i : Nat} {f : FR} (hi : i < 37) (hf : X.1 i = f) : Con Λ yX0_allRuns wsX0_allRuns { frames := 0, cells := 0, slots := 0, locals := 0 } [rf Λ (5 * i)] (CC Λ X Y) (some (.int (sumI (fr f) 8))) (CC Λ X Y) := by
  refine con_start (cc := cX0_allRuns) (maxL := 3) (ret := (some .int)) (by decide) rfl (Nat.le_of_ble_eq_true rfl) ?_
  intro κ hC hR
  have hC : Ok Λ { frames := 0, cells := 0, slots := 0, locals := 0 } cX0_allRuns wsX0_allRuns RX0 3 κ := hC
  refine v_args (lv' := [(0, rf Λ (5 * i))]) rfl ?_
  refine v_iconst (v := 0) hC dX0_allRuns_0 (by decide) ?_
  refine v_istore_n (lv' := [(1, .int 0), (0, rf Λ (5 * i))]) hC dX0_allRuns_1 (by decide) rfl ?_
  refine v_iconst (v := 0) hC dX0_allRuns_2 (by decide) ?_
  refine v_istore_n (lv' := [(2, .int 0), (1, .int 0), (0, rf Λ (5 * i))]) hC dX0_allRuns_3 (by decide) rfl ?_
  have L4 : ∀ (fu4 : Nat) (b : Nat) (x1 : Int32) (x2 : Int32), b ≤ 8 → x1 = sumI (fr f) b → x2 = nI b → 8 - b < fu4 → V Λ κ (CC Λ X Y) 4 [(0, rf Λ (5 * i)), (1, .int x1), (2, .int x2)] [] := by
    intro fu4
    induction fu4 with
    | zero => intro b x1 x2 hb e1 e2 hfu4; exact absurd hfu4 (Nat.not_lt_zero _)
    | succ fu4 ih4 =>
      intro b x1 x2 hb e1 e2 hfu4
      subst e1
      subst e2
      refine v_iload_n hC dX0_allRuns_4 2 rfl ?_
      refine v_bipush (v := 8) hC dX0_allRuns_5 (by decide) ?_
      refine v_nge (a := b) (b := 8) (tgt := 25) hC dX0_allRuns_7 (by decide) rfl rfl (by omega) (by omega) (fun c7 => ?_) (fun c7 => ?_)
      · have c7' := Nat.not_lt.mpr c7
        have e_b : b = 8 := by omega
        subst e_b
        refine v_iload_n hC dX0_allRuns_25 1 rfl ?_
        exact v_iret hC hR rfl rfl dX0_allRuns_26
      · have c7' := Nat.not_le.mpr c7
        refine v_iload_n hC dX0_allRuns_10 1 rfl ?_
        refine v_aload_n hC dX0_allRuns_11 0 rfl ?_
        refine v_get (T := TX0) (N := 7) (v := rf Λ (5 * i + 4)) hC (5 * i) (rb_f0 hi) (cc_f0 Λ Y hi hf) in_X0_allRuns_X0 rfl 3 (by decide) fl_X0_allRuns_22 rfl dX0_allRuns_12 ?_
        refine v_iload_n hC dX0_allRuns_15 2 rfl ?_
        refine v_iald (n := 8) (f := (fr f)) hC (5 * i + 4) (rb_f hi (by decide)) (cc_f4 Λ Y hi hf) b rfl (by omega) (by decide) dX0_allRuns_16 ?_
        refine v_iadd (x := sumI (fr f) b) (y := (fr f) b) hC dX0_allRuns_17 ?_
        refine v_istore_n (lv' := [(1, .int ((sumI (fr f) b) + ((fr f) b))), (0, rf Λ (5 * i)), (2, .int (nI b))]) hC dX0_allRuns_18 (by decide) rfl ?_
        refine v_iinc (j := 2) (v := nI (b + 1)) (lv' := [(2, .int (nI (b + 1))), (1, .int ((sumI (fr f) b) + ((fr f) b))), (0, rf Λ (5 * i))]) hC dX0_allRuns_19 rfl (nI_add b 1) (by decide) rfl ?_
        refine v_goto (tgt := 4) hC dX0_allRuns_22 (by decide) ?_
        refine v_sub (lv' := [(0, rf Λ (5 * i)), (1, .int ((sumI (fr f) b) + ((fr f) b))), (2, .int (nI (b + 1)))]) [2, 1, 0] rfl ?_
        exact ih4 (b + 1) _ _ (by omega) rfl rfl (by omega)
  refine v_sub (lv' := [(0, rf Λ (5 * i)), (1, .int 0), (2, .int 0)]) [2, 1, 0] rfl ?_
  exact L4 _ 0 _ _ (by omega) rfl rfl (Nat.lt_succ_self _)
theorem in_X0_units_X0 : ∀ w ∈ wsX00, w ∈ wsX0_units := by decide +kernel
theorem fl_X0_units_15 : Cond.fieldLink RX0 15 "BoatSets$Fleet" "kinds" "[I" ∈ wsX0_units := by decide +kernel
theorem hd_X0_units : yX0_units.cls = RX0 ∧ yX0_units.cls ≠ "java/lang/invoke/MethodHandle" ∧ yX0_units.cls ≠ "java/lang/invoke/VarHandle" ∧ (parseMethodDescriptor yX0_units.desc).map (fun d => d.parameters.length) = some 0 := by decide +kernel
set_option maxHeartbeats 400000 in
set_option maxRecDepth 100000 in
theorem c_X0_units (Λ : Lk) (X : XS) (Y : YS) {i : Nat} {f : FR} (hi : i < 37) (hf : X.1 i = f) : Con Λ yX0_units wsX0_units { frames := 1, cells := 0, slots := 0, locals := 22 } [rf Λ (5 * i)] (CC Λ X Y) (some (.int (sumI (fun b => unitsC f b (fk f b)) 8))) (CC Λ X Y) := by
  refine con_start (cc := cX0_units) (maxL := 3) (ret := (some .int)) (by decide) rfl (Nat.le_of_ble_eq_true rfl) ?_
  intro κ hC hR
  have hC : Ok Λ { frames := 1, cells := 0, slots := 0, locals := 22 } cX0_units wsX0_units RX0 3 κ := hC
  refine v_args (lv' := [(0, rf Λ (5 * i))]) rfl ?_
  refine v_iconst (v := 0) hC dX0_units_0 (by decide) ?_
  refine v_istore_n (lv' := [(1, .int 0), (0, rf Λ (5 * i))]) hC dX0_units_1 (by decide) rfl ?_
  refine v_iconst (v := 0) hC dX0_units_2 (by decide) ?_
  refine v_istore_n (lv' := [(2, .int 0), (1, .int 0), (0, rf Λ (5 * i))]) hC dX0_units_3 (by decide) rfl ?_
  have L4 : ∀ (fu4 : Nat) (b : Nat) (x1 : Int32) (x2 : Int32), b ≤ 8 → x1 = sumI (fun b => unitsC f b (fk f b)) b → x2 = nI b → 8 - b < fu4 → V Λ κ (CC Λ X Y) 4 [(0, rf Λ (5 * i)), (1, .int x1), (2, .int x2)] [] := by
    intro fu4
    induction fu4 with
    | zero => intro b x1 x2 hb e1 e2 hfu4; exact absurd hfu4 (Nat.not_lt_zero _)
    | succ fu4 ih4 =>
      intro b x1 x2 hb e1 e2 hfu4
      subst e1
      subst e2
      refine v_iload_n hC dX0_units_4 2 rfl ?_
      refine v_bipush (v := 8) hC dX0_units_5 (by decide) ?_
      refine v_nge (a := b) (b := 8) (tgt := 30) hC dX0_units_7 (by decide) rfl rfl (by omega) (by omega) (fun c7 => ?_) (fun c7 => ?_)
      · have c7' := Nat.not_lt.mpr c7
        have e_b : b = 8 := by omega
        subst e_b
        refine v_iload_n hC dX0_units_30 1 rfl ?_
        exact v_iret hC hR rfl rfl dX0_units_31
      · have c7' := Nat.not_le.mpr c7
        refine v_iload_n hC dX0_units_10 1 rfl ?_
        refine v_aload_n hC dX0_units_11 0 rfl ?_
        refine v_iload_n hC dX0_units_12 2 rfl ?_
        refine v_aload_n hC dX0_units_13 0 rfl ?_
        refine v_get (T := TX0) (N := 7) (v := rf Λ (5 * i + 2)) hC (5 * i) (rb_f0 hi) (cc_f0 Λ Y hi hf) in_X0_units_X0 rfl 1 (by decide) fl_X0_units_15 rfl dX0_units_14 ?_
        refine v_iload_n hC dX0_units_17 2 rfl ?_
        refine v_iald (n := 8) (f := (fk f)) hC (5 * i + 2) (rb_f hi (by decide)) (cc_f2 Λ Y hi hf) b rfl (by omega) (by decide) dX0_units_18 ?_
        refine v_callVr (v := .int (unitsC f b ((fk f) b))) (C2 := CC Λ X Y) (As := [.int (nI b), .int ((fk f) b)]) (rest := [.int (sumI (fun b => unitsC f b (fk f b)) b)]) hC 2 (5 * i) (c_X0_unitsAs Λ X Y (i := i) (f := f) hi hf (b := b) (k := (fk f) b) (by omega)) (rb_f0 hi) (cc_f0 Λ Y hi hf) rfl gX0_units_X0_unitsAs rfl rfl rfl hd_X0_unitsAs ⟨by decide, by decide⟩ rfl rfl (Nat.le_of_ble_eq_true rfl) dX0_units_19 ?_
        refine v_iadd (x := sumI (fun b => unitsC f b (fk f b)) b) (y := unitsC f b ((fk f) b)) hC dX0_units_22 ?_
        refine v_istore_n (lv' := [(1, .int ((sumI (fun b => unitsC f b (fk f b)) b) + (unitsC f b ((fk f) b)))), (0, rf Λ (5 * i)), (2, .int (nI b))]) hC dX0_units_23 (by decide) rfl ?_
        refine v_iinc (j := 2) (v := nI (b + 1)) (lv' := [(2, .int (nI (b + 1))), (1, .int ((sumI (fun b => unitsC f b (fk f b)) b) + (unitsC f b ((fk f) b)))), (0, rf Λ (5 * i))]) hC dX0_units_24 rfl (nI_add b 1) (by decide) rfl ?_
        refine v_goto (tgt := 4) hC dX0_units_27 (by decide) ?_
        refine v_sub (lv' := [(0, rf Λ (5 * i)), (1, .int ((sumI (fun b => unitsC f b (fk f b)) b) + (unitsC f b ((fk f) b)))), (2, .int (nI (b + 1)))]) [2, 1, 0] rfl ?_
        exact ih4 (b + 1) _ _ (by omega) rfl rfl (by omega)
  refine v_sub (lv' := [(0, rf Λ (5 * i)), (1, .int 0), (2, .int 0)]) [2, 1, 0] rfl ?_
  exact L4 _ 0 _ _ (by omega) rfl rfl (Nat.lt_succ_self _)
theorem hd_X0_bestUnits : yX0_bestUnits.cls = RX0 ∧ yX0_bestUnits.cls ≠ "java/lang/invoke/MethodHandle" ∧ yX0_bestUnits.cls ≠ "java/lang/invoke/VarHandle" ∧ (parseMethodDescriptor yX0_bestUnits.desc).map (fun d => d.parameters.length) = some 0 := by decide +kernel
set_option maxHeartbeats 400000 in
set_option maxRecDepth 100000 in
theorem c_X0_bestUnits (Λ : Lk) (X : XS) (Y : YS) {i : Nat} {f : FR} (hi : i < 37) (hf : X.1 i = f) : Con Λ yX0_bestUnits wsX0_bestUnits { frames := 2, cells := 0, slots := 0, locals := 44 } [rf Λ (5 * i)] (CC Λ X Y) (some (.int (sumI (fun b => unitsC f b (bestC f b)) 8))) (CC Λ X Y) := by
  refine con_start (cc := cX0_bestUnits) (maxL := 3) (ret := (some .int)) (by decide) rfl (Nat.le_of_ble_eq_true rfl) ?_
  intro κ hC hR
  have hC : Ok Λ { frames := 2, cells := 0, slots := 0, locals := 44 } cX0_bestUnits wsX0_bestUnits RX0 3 κ := hC
  refine v_args (lv' := [(0, rf Λ (5 * i))]) rfl ?_
  refine v_iconst (v := 0) hC dX0_bestUnits_0 (by decide) ?_
  refine v_istore_n (lv' := [(1, .int 0), (0, rf Λ (5 * i))]) hC dX0_bestUnits_1 (by decide) rfl ?_
  refine v_iconst (v := 0) hC dX0_bestUnits_2 (by decide) ?_
  refine v_istore_n (lv' := [(2, .int 0), (1, .int 0), (0, rf Λ (5 * i))]) hC dX0_bestUnits_3 (by decide) rfl ?_
  have L4 : ∀ (fu4 : Nat) (b : Nat) (x1 : Int32) (x2 : Int32), b ≤ 8 → x1 = sumI (fun b => unitsC f b (bestC f b)) b → x2 = nI b → 8 - b < fu4 → V Λ κ (CC Λ X Y) 4 [(0, rf Λ (5 * i)), (1, .int x1), (2, .int x2)] [] := by
    intro fu4
    induction fu4 with
    | zero => intro b x1 x2 hb e1 e2 hfu4; exact absurd hfu4 (Nat.not_lt_zero _)
    | succ fu4 ih4 =>
      intro b x1 x2 hb e1 e2 hfu4
      subst e1
      subst e2
      refine v_iload_n hC dX0_bestUnits_4 2 rfl ?_
      refine v_bipush (v := 8) hC dX0_bestUnits_5 (by decide) ?_
      refine v_nge (a := b) (b := 8) (tgt := 29) hC dX0_bestUnits_7 (by decide) rfl rfl (by omega) (by omega) (fun c7 => ?_) (fun c7 => ?_)
      · have c7' := Nat.not_lt.mpr c7
        have e_b : b = 8 := by omega
        subst e_b
        refine v_iload_n hC dX0_bestUnits_29 1 rfl ?_
        exact v_iret hC hR rfl rfl dX0_bestUnits_30
      · have c7' := Nat.not_le.mpr c7
        refine v_iload_n hC dX0_bestUnits_10 1 rfl ?_
        refine v_aload_n hC dX0_bestUnits_11 0 rfl ?_
        refine v_iload_n hC dX0_bestUnits_12 2 rfl ?_
        refine v_aload_n hC dX0_bestUnits_13 0 rfl ?_
        refine v_iload_n hC dX0_bestUnits_14 2 rfl ?_
        refine v_callVr (v := .int (bestC f b)) (C2 := CC Λ X Y) (As := [.int (nI b)]) (rest := [.int (nI b), rf Λ (5 * i), .int (sumI (fun b => unitsC f b (bestC f b)) b)]) hC 1 (5 * i) (c_X0_bestKind Λ X Y (i := i) (f := f) hi hf (b := b) (by omega)) (rb_f0 hi) (cc_f0 Λ Y hi hf) rfl gX0_bestUnits_X0_bestKind rfl rfl rfl hd_X0_bestKind ⟨by decide, by decide⟩ rfl rfl (Nat.le_of_ble_eq_true rfl) dX0_bestUnits_15 ?_
        refine v_callVr (v := .int (unitsC f b (bestC f b))) (C2 := CC Λ X Y) (As := [.int (nI b), .int (bestC f b)]) (rest := [.int (sumI (fun b => unitsC f b (bestC f b)) b)]) hC 2 (5 * i) (c_X0_unitsAs Λ X Y (i := i) (f := f) hi hf (b := b) (k := bestC f b) (by omega)) (rb_f0 hi) (cc_f0 Λ Y hi hf) rfl gX0_bestUnits_X0_unitsAs rfl rfl rfl hd_X0_unitsAs ⟨by decide, by decide⟩ rfl rfl (Nat.le_of_ble_eq_true rfl) dX0_bestUnits_18 ?_
        refine v_iadd (x := sumI (fun b => unitsC f b (bestC f b)) b) (y := unitsC f b (bestC f b)) hC dX0_bestUnits_21 ?_
        refine v_istore_n (lv' := [(1, .int ((sumI (fun b => unitsC f b (bestC f b)) b) + (unitsC f b (bestC f b)))), (0, rf Λ (5 * i)), (2, .int (nI b))]) hC dX0_bestUnits_22 (by decide) rfl ?_
        refine v_iinc (j := 2) (v := nI (b + 1)) (lv' := [(2, .int (nI (b + 1))), (1, .int ((sumI (fun b => unitsC f b (bestC f b)) b) + (unitsC f b (bestC f b)))), (0, rf Λ (5 * i))]) hC dX0_bestUnits_23 rfl (nI_add b 1) (by decide) rfl ?_
        refine v_goto (tgt := 4) hC dX0_bestUnits_26 (by decide) ?_
        refine v_sub (lv' := [(0, rf Λ (5 * i)), (1, .int ((sumI (fun b => unitsC f b (bestC f b)) b) + (unitsC f b (bestC f b)))), (2, .int (nI (b + 1)))]) [2, 1, 0] rfl ?_
        exact ih4 (b + 1) _ _ (by omega) rfl rfl (by omega)
  refine v_sub (lv' := [(0, rf Λ (5 * i)), (1, .int 0), (2, .int 0)]) [2, 1, 0] rfl ?_
  exact L4 _ 0 _ _ (by omega) rfl rfl (Nat.lt_succ_self _)
theorem in_X0_boatsOfKind_X0 : ∀ w ∈ wsX00, w ∈ wsX0_boatsOfKind := by decide +kernel
theorem fl_X0_boatsOfKind_19 : Cond.fieldLink RX0 19 "BoatSets$Fleet" "sizes" "[I" ∈ wsX0_boatsOfKind := by decide +kernel
theorem fl_X0_boatsOfKind_15 : Cond.fieldLink RX0 15 "BoatSets$Fleet" "kinds" "[I" ∈ wsX0_boatsOfKind := by decide +kernel
theorem hd_X0_boatsOfKind : yX0_boatsOfKind.cls = RX0 ∧ yX0_boatsOfKind.cls ≠ "java/lang/invoke/MethodHandle" ∧ yX0_boatsOfKind.cls ≠ "java/lang/invoke/VarHandle" ∧ (parseMethodDescriptor yX0_boatsOfKind.desc).map (fun d => d.parameters.length) = some 1 := by decide +kernel
set_option maxHeartbeats 400000 in
set_option maxRecDepth 100000 in
theorem c_X0_boatsOfKind (Λ : Lk) (X : XS) (Y : YS) {i : Nat} {f : FR} (hi : i < 37) (hf : X.1 i = f) {k : Int32} : Con Λ yX0_boatsOfKind wsX0_boatsOfKind { frames := 0, cells := 0, slots := 0, locals := 0 } [rf Λ (5 * i), .int k] (CC Λ X Y) (some (.int (bkC f k 8))) (CC Λ X Y) := by
  refine con_start (cc := cX0_boatsOfKind) (maxL := 4) (ret := (some .int)) (by decide) rfl (Nat.le_of_ble_eq_true rfl) ?_
  intro κ hC hR
  have hC : Ok Λ { frames := 0, cells := 0, slots := 0, locals := 0 } cX0_boatsOfKind wsX0_boatsOfKind RX0 4 κ := hC
  refine v_args (lv' := [(0, rf Λ (5 * i)), (1, .int k)]) rfl ?_
  refine v_iconst (v := 0) hC dX0_boatsOfKind_0 (by decide) ?_
  refine v_istore_n (lv' := [(2, .int 0), (0, rf Λ (5 * i)), (1, .int k)]) hC dX0_boatsOfKind_1 (by decide) rfl ?_
  refine v_iconst (v := 0) hC dX0_boatsOfKind_2 (by decide) ?_
  refine v_istore_n (lv' := [(3, .int 0), (2, .int 0), (0, rf Λ (5 * i)), (1, .int k)]) hC dX0_boatsOfKind_3 (by decide) rfl ?_
  have L4 : ∀ (fu4 : Nat) (b : Nat) (x2 : Int32) (x3 : Int32), b ≤ 8 → x2 = bkC f k b → x3 = nI b → 8 - b < fu4 → V Λ κ (CC Λ X Y) 4 [(0, rf Λ (5 * i)), (1, .int k), (2, .int x2), (3, .int x3)] [] := by
    intro fu4
    induction fu4 with
    | zero => intro b x2 x3 hb e2 e3 hfu4; exact absurd hfu4 (Nat.not_lt_zero _)
    | succ fu4 ih4 =>
      intro b x2 x3 hb e2 e3 hfu4
      subst e2
      subst e3
      refine v_iload_n hC dX0_boatsOfKind_4 3 rfl ?_
      refine v_bipush (v := 8) hC dX0_boatsOfKind_5 (by decide) ?_
      refine v_nge (a := b) (b := 8) (tgt := 38) hC dX0_boatsOfKind_7 (by decide) rfl rfl (by omega) (by omega) (fun c7 => ?_) (fun c7 => ?_)
      · have c7' := Nat.not_lt.mpr c7
        have e_b : b = 8 := by omega
        subst e_b
        refine v_iload_n hC dX0_boatsOfKind_38 2 rfl ?_
        exact v_iret hC hR rfl rfl dX0_boatsOfKind_39
      · have c7' := Nat.not_le.mpr c7
        refine v_aload_n hC dX0_boatsOfKind_10 0 rfl ?_
        refine v_get (T := TX0) (N := 7) (v := rf Λ (5 * i + 3)) hC (5 * i) (rb_f0 hi) (cc_f0 Λ Y hi hf) in_X0_boatsOfKind_X0 rfl 2 (by decide) fl_X0_boatsOfKind_19 rfl dX0_boatsOfKind_11 ?_
        refine v_iload_n hC dX0_boatsOfKind_14 3 rfl ?_
        refine v_iald (n := 8) (f := (fs f)) hC (5 * i + 3) (rb_f hi (by decide)) (cc_f3 Λ Y hi hf) b rfl (by omega) (by decide) dX0_boatsOfKind_15 ?_
        refine v_if_le (tgt := 32) hC dX0_boatsOfKind_16 (by decide) (fun c16 => ?_) (fun c16 => ?_)
        · have c16' := Int32.not_lt.mpr c16
          refine v_iinc (j := 3) (v := nI (b + 1)) (lv' := [(3, .int (nI (b + 1))), (0, rf Λ (5 * i)), (1, .int k), (2, .int (bkC f k b))]) hC dX0_boatsOfKind_32 rfl (nI_add b 1) (by decide) rfl ?_
          refine v_goto (tgt := 4) hC dX0_boatsOfKind_35 (by decide) ?_
          refine v_sub (lv' := [(0, rf Λ (5 * i)), (1, .int k), (2, .int (bkC f k b)), (3, .int (nI (b + 1)))]) [1, 2, 3, 0] rfl ?_
          exact ih4 (b + 1) _ _ (by omega) (by simp [bkC, c7, c7', c16, c16']) rfl (by omega)
        · have c16' := Int32.not_le.mp c16
          refine v_aload_n hC dX0_boatsOfKind_19 0 rfl ?_
          refine v_get (T := TX0) (N := 7) (v := rf Λ (5 * i + 2)) hC (5 * i) (rb_f0 hi) (cc_f0 Λ Y hi hf) in_X0_boatsOfKind_X0 rfl 1 (by decide) fl_X0_boatsOfKind_15 rfl dX0_boatsOfKind_20 ?_
          refine v_iload_n hC dX0_boatsOfKind_23 3 rfl ?_
          refine v_iald (n := 8) (f := (fk f)) hC (5 * i + 2) (rb_f hi (by decide)) (cc_f2 Λ Y hi hf) b rfl (by omega) (by decide) dX0_boatsOfKind_24 ?_
          refine v_iload_n hC dX0_boatsOfKind_25 1 rfl ?_
          refine v_icmp_ne (x := (fk f) b) (y := k) (tgt := 32) hC dX0_boatsOfKind_26 (by decide) (fun c26 => ?_) (fun c26 => ?_)
          · skip
            refine v_iinc (j := 3) (v := nI (b + 1)) (lv' := [(3, .int (nI (b + 1))), (0, rf Λ (5 * i)), (1, .int k), (2, .int (bkC f k b))]) hC dX0_boatsOfKind_32 rfl (nI_add b 1) (by decide) rfl ?_
            refine v_goto (tgt := 4) hC dX0_boatsOfKind_35 (by decide) ?_
            refine v_sub (lv' := [(0, rf Λ (5 * i)), (1, .int k), (2, .int (bkC f k b)), (3, .int (nI (b + 1)))]) [1, 2, 3, 0] rfl ?_
            exact ih4 (b + 1) _ _ (by omega) (by simp [bkC, c7, c7', c16, c16', c26]) rfl (by omega)
          · skip
            refine v_iinc (j := 2) (v := (bkC f k b) + 1) (lv' := [(2, .int ((bkC f k b) + 1)), (0, rf Λ (5 * i)), (1, .int k), (3, .int (nI b))]) hC dX0_boatsOfKind_29 rfl rfl (by decide) rfl ?_
            refine v_iinc (j := 3) (v := nI (b + 1)) (lv' := [(3, .int (nI (b + 1))), (2, .int ((bkC f k b) + 1)), (0, rf Λ (5 * i)), (1, .int k)]) hC dX0_boatsOfKind_32 rfl (nI_add b 1) (by decide) rfl ?_
            refine v_goto (tgt := 4) hC dX0_boatsOfKind_35 (by decide) ?_
            refine v_sub (lv' := [(0, rf Λ (5 * i)), (1, .int k), (2, .int ((bkC f k b) + 1)), (3, .int (nI (b + 1)))]) [2, 3, 1, 0] rfl ?_
            exact ih4 (b + 1) _ _ (by omega) (by simp [bkC, c7, c7', c16, c16', c26]) rfl (by omega)
  refine v_sub (lv' := [(0, rf Λ (5 * i)), (1, .int k), (2, .int 0), (3, .int 0)]) [2, 3, 1, 0] rfl ?_
  exact L4 _ 0 _ _ (by omega) rfl rfl (Nat.lt_succ_self _)
theorem hd_X0_boats : yX0_boats.cls = RX0 ∧ yX0_boats.cls ≠ "java/lang/invoke/MethodHandle" ∧ yX0_boats.cls ≠ "java/lang/invoke/VarHandle" ∧ (parseMethodDescriptor yX0_boats.desc).map (fun d => d.parameters.length) = some 0 := by decide +kernel
set_option maxHeartbeats 400000 in
set_option maxRecDepth 100000 in
theorem c_X0_boats (Λ : Lk) (X : XS) (Y : YS) {i : Nat} {f : FR} (hi : i < 37) (hf : X.1 i = f) : Con Λ yX0_boats wsX0_boats { frames := 1, cells := 0, slots := 0, locals := 23 } [rf Λ (5 * i)] (CC Λ X Y) (some (.int (bkC f 0 8 + bkC f 1 8 + bkC f 2 8))) (CC Λ X Y) := by
  refine con_start (cc := cX0_boats) (maxL := 1) (ret := (some .int)) (by decide) rfl (Nat.le_of_ble_eq_true rfl) ?_
  intro κ hC hR
  have hC : Ok Λ { frames := 1, cells := 0, slots := 0, locals := 23 } cX0_boats wsX0_boats RX0 1 κ := hC
  refine v_args (lv' := [(0, rf Λ (5 * i))]) rfl ?_
  refine v_aload_n hC dX0_boats_0 0 rfl ?_
  refine v_iconst (v := 0) hC dX0_boats_1 (by decide) ?_
  refine v_callVr (v := .int (bkC f 0 8)) (C2 := CC Λ X Y) (As := [.int 0]) (rest := []) hC 1 (5 * i) (c_X0_boatsOfKind Λ X Y (i := i) (f := f) hi hf (k := 0)) (rb_f0 hi) (cc_f0 Λ Y hi hf) rfl gX0_boats_X0_boatsOfKind rfl rfl rfl hd_X0_boatsOfKind ⟨by decide, by decide⟩ rfl rfl (Nat.le_of_ble_eq_true rfl) dX0_boats_2 ?_
  refine v_aload_n hC dX0_boats_5 0 rfl ?_
  refine v_iconst (v := 1) hC dX0_boats_6 (by decide) ?_
  refine v_callVr (v := .int (bkC f 1 8)) (C2 := CC Λ X Y) (As := [.int 1]) (rest := [.int (bkC f 0 8)]) hC 1 (5 * i) (c_X0_boatsOfKind Λ X Y (i := i) (f := f) hi hf (k := 1)) (rb_f0 hi) (cc_f0 Λ Y hi hf) rfl gX0_boats_X0_boatsOfKind rfl rfl rfl hd_X0_boatsOfKind ⟨by decide, by decide⟩ rfl rfl (Nat.le_of_ble_eq_true rfl) dX0_boats_7 ?_
  refine v_iadd (x := bkC f 0 8) (y := bkC f 1 8) hC dX0_boats_10 ?_
  refine v_aload_n hC dX0_boats_11 0 rfl ?_
  refine v_iconst (v := 2) hC dX0_boats_12 (by decide) ?_
  refine v_callVr (v := .int (bkC f 2 8)) (C2 := CC Λ X Y) (As := [.int 2]) (rest := [.int ((bkC f 0 8) + (bkC f 1 8))]) hC 1 (5 * i) (c_X0_boatsOfKind Λ X Y (i := i) (f := f) hi hf (k := 2)) (rb_f0 hi) (cc_f0 Λ Y hi hf) rfl gX0_boats_X0_boatsOfKind rfl rfl rfl hd_X0_boatsOfKind ⟨by decide, by decide⟩ rfl rfl (Nat.le_of_ble_eq_true rfl) dX0_boats_13 ?_
  refine v_iadd (x := (bkC f 0 8) + (bkC f 1 8)) (y := bkC f 2 8) hC dX0_boats_16 ?_
  exact v_iret hC hR rfl rfl dX0_boats_17
theorem in_X0_tollToBest_X0 : ∀ w ∈ wsX00, w ∈ wsX0_tollToBest := by decide +kernel
theorem fl_X0_tollToBest_15 : Cond.fieldLink RX0 15 "BoatSets$Fleet" "kinds" "[I" ∈ wsX0_tollToBest := by decide +kernel
theorem hd_X0_tollToBest : yX0_tollToBest.cls = RX0 ∧ yX0_tollToBest.cls ≠ "java/lang/invoke/MethodHandle" ∧ yX0_tollToBest.cls ≠ "java/lang/invoke/VarHandle" ∧ (parseMethodDescriptor yX0_tollToBest.desc).map (fun d => d.parameters.length) = some 1 := by decide +kernel
set_option maxHeartbeats 400000 in
set_option maxRecDepth 100000 in
theorem c_X0_tollToBest (Λ : Lk) (X : XS) (Y : YS) {i : Nat} {f : FR} (hi : i < 37) (hf : X.1 i = f) {b : Nat} (hb : b < 8) : Con Λ yX0_tollToBest wsX0_tollToBest { frames := 2, cells := 0, slots := 0, locals := 44 } [rf Λ (5 * i), .int (nI b)] (CC Λ X Y) (some (.int (tbC f b))) (CC Λ X Y) := by
  refine con_start (cc := cX0_tollToBest) (maxL := 3) (ret := (some .int)) (by decide) rfl (Nat.le_of_ble_eq_true rfl) ?_
  intro κ hC hR
  have hC : Ok Λ { frames := 2, cells := 0, slots := 0, locals := 44 } cX0_tollToBest wsX0_tollToBest RX0 3 κ := hC
  refine v_args (lv' := [(0, rf Λ (5 * i)), (1, .int (nI b))]) rfl ?_
  refine v_aload_n hC dX0_tollToBest_0 0 rfl ?_
  refine v_iload_n hC dX0_tollToBest_1 1 rfl ?_
  refine v_callVr (v := .int (bestC f b)) (C2 := CC Λ X Y) (As := [.int (nI b)]) (rest := []) hC 1 (5 * i) (c_X0_bestKind Λ X Y (i := i) (f := f) hi hf (b := b) (by omega)) (rb_f0 hi) (cc_f0 Λ Y hi hf) rfl gX0_tollToBest_X0_bestKind rfl rfl rfl hd_X0_bestKind ⟨by decide, by decide⟩ rfl rfl (Nat.le_of_ble_eq_true rfl) dX0_tollToBest_2 ?_
  refine v_istore_n (lv' := [(2, .int (bestC f b)), (0, rf Λ (5 * i)), (1, .int (nI b))]) hC dX0_tollToBest_5 (by decide) rfl ?_
  refine v_iload_n hC dX0_tollToBest_6 0 rfl ?_
  refine v_aload_n hC dX0_tollToBest_7 1 rfl ?_
  refine v_get (T := TX0) (N := 7) (v := rf Λ (5 * i + 2)) hC (5 * i) (rb_f0 hi) (cc_f0 Λ Y hi hf) in_X0_tollToBest_X0 rfl 1 (by decide) fl_X0_tollToBest_15 rfl dX0_tollToBest_8 ?_
  refine v_iload_n hC dX0_tollToBest_11 2 rfl ?_
  refine v_iald (n := 8) (f := (fk f)) hC (5 * i + 2) (rb_f hi (by decide)) (cc_f2 Λ Y hi hf) b rfl (by omega) (by decide) dX0_tollToBest_12 ?_
  refine v_icmp_ne (x := bestC f b) (y := (fk f) b) (tgt := 20) hC dX0_tollToBest_13 (by decide) (fun c13 => ?_) (fun c13 => ?_)
  · skip
    refine v_aload_n hC dX0_tollToBest_20 1 rfl ?_
    refine v_iload_n hC dX0_tollToBest_21 2 rfl ?_
    refine v_iload_n hC dX0_tollToBest_22 0 rfl ?_
    refine v_callVr (v := .int (unitsC f b (bestC f b))) (C2 := CC Λ X Y) (As := [.int (nI b), .int (bestC f b)]) (rest := []) hC 2 (5 * i) (c_X0_unitsAs Λ X Y (i := i) (f := f) hi hf (b := b) (k := bestC f b) (by omega)) (rb_f0 hi) (cc_f0 Λ Y hi hf) rfl gX0_tollToBest_X0_unitsAs rfl rfl rfl hd_X0_unitsAs ⟨by decide, by decide⟩ rfl rfl (Nat.le_of_ble_eq_true rfl) dX0_tollToBest_23 ?_
    exact v_iret hC hR (congrArg (fun z : Int32 => some (Value.int z)) (by simp [tbC, c13])) rfl dX0_tollToBest_26
  · skip
    refine v_iconst (v := 0) hC dX0_tollToBest_16 (by decide) ?_
    refine v_goto (tgt := 26) hC dX0_tollToBest_17 (by decide) ?_
    exact v_iret hC hR (congrArg (fun z : Int32 => some (Value.int z)) (by simp [tbC, c13])) rfl dX0_tollToBest_26
theorem in_X0_baySavingMost_X0 : ∀ w ∈ wsX00, w ∈ wsX0_baySavingMost := by decide +kernel
theorem fl_X0_baySavingMost_15 : Cond.fieldLink RX0 15 "BoatSets$Fleet" "kinds" "[I" ∈ wsX0_baySavingMost := by decide +kernel
theorem hd_X0_baySavingMost : yX0_baySavingMost.cls = RX0 ∧ yX0_baySavingMost.cls ≠ "java/lang/invoke/MethodHandle" ∧ yX0_baySavingMost.cls ≠ "java/lang/invoke/VarHandle" ∧ (parseMethodDescriptor yX0_baySavingMost.desc).map (fun d => d.parameters.length) = some 1 := by decide +kernel
set_option maxHeartbeats 400000 in
set_option maxRecDepth 100000 in
theorem c_X0_baySavingMost (Λ : Lk) (X : XS) (Y : YS) {i : Nat} {f : FR} (hi : i < 37) (hf : X.1 i = f) {s : Int32} : Con Λ yX0_baySavingMost wsX0_baySavingMost { frames := 2, cells := 0, slots := 0, locals := 44 } [rf Λ (5 * i), .int s] (CC Λ X Y) (some (.int ((bsN f s 8).1))) (CC Λ X Y) := by
  refine con_start (cc := cX0_baySavingMost) (maxL := 7) (ret := (some .int)) (by decide) rfl (Nat.le_of_ble_eq_true rfl) ?_
  intro κ hC hR
  have hC : Ok Λ { frames := 2, cells := 0, slots := 0, locals := 44 } cX0_baySavingMost wsX0_baySavingMost RX0 7 κ := hC
  refine v_args (lv' := [(0, rf Λ (5 * i)), (1, .int s)]) rfl ?_
  refine v_bipush (v := (-5)) hC dX0_baySavingMost_0 (by decide) ?_
  refine v_istore_n (lv' := [(2, .int (-5)), (0, rf Λ (5 * i)), (1, .int s)]) hC dX0_baySavingMost_2 (by decide) rfl ?_
  refine v_iconst (v := (-1)) hC dX0_baySavingMost_3 (by decide) ?_
  refine v_istore_n (lv' := [(3, .int (-1)), (2, .int (-5)), (0, rf Λ (5 * i)), (1, .int s)]) hC dX0_baySavingMost_4 (by decide) rfl ?_
  refine v_iconst (v := 0) hC dX0_baySavingMost_5 (by decide) ?_
  refine v_istore (lv' := [(4, .int 0), (3, .int (-1)), (2, .int (-5)), (0, rf Λ (5 * i)), (1, .int s)]) hC dX0_baySavingMost_6 (by decide) rfl ?_
  have L8 : ∀ (fu8 : Nat) (b : Nat) (x2 : Int32) (x3 : Int32) (x4 : Int32), b ≤ 8 → x2 = (bsN f s b).1 → x3 = (bsN f s b).2 → x4 = nI b → 8 - b < fu8 → V Λ κ (CC Λ X Y) 8 [(0, rf Λ (5 * i)), (1, .int s), (2, .int x2), (3, .int x3), (4, .int x4)] [] := by
    intro fu8
    induction fu8 with
    | zero => intro b x2 x3 x4 hb e2 e3 e4 hfu8; exact absurd hfu8 (Nat.not_lt_zero _)
    | succ fu8 ih8 =>
      intro b x2 x3 x4 hb e2 e3 e4 hfu8
      subst e2
      subst e3
      subst e4
      refine v_iload hC dX0_baySavingMost_8 4 rfl ?_
      refine v_bipush (v := 8) hC dX0_baySavingMost_10 (by decide) ?_
      refine v_nge (a := b) (b := 8) (tgt := 86) hC dX0_baySavingMost_12 (by decide) rfl rfl (by omega) (by omega) (fun c12 => ?_) (fun c12 => ?_)
      · have c12' := Nat.not_lt.mpr c12
        have e_b : b = 8 := by omega
        subst e_b
        refine v_iload_n hC dX0_baySavingMost_86 2 rfl ?_
        exact v_iret hC hR rfl rfl dX0_baySavingMost_87
      · have c12' := Nat.not_le.mpr c12
        refine v_aload_n hC dX0_baySavingMost_15 0 rfl ?_
        refine v_iload hC dX0_baySavingMost_16 4 rfl ?_
        refine v_callVr (v := .int (bestC f b)) (C2 := CC Λ X Y) (As := [.int (nI b)]) (rest := []) hC 1 (5 * i) (c_X0_bestKind Λ X Y (i := i) (f := f) hi hf (b := b) (by omega)) (rb_f0 hi) (cc_f0 Λ Y hi hf) rfl gX0_baySavingMost_X0_bestKind rfl rfl rfl hd_X0_bestKind ⟨by decide, by decide⟩ rfl rfl (Nat.le_of_ble_eq_true rfl) dX0_baySavingMost_18 ?_
        refine v_istore (lv' := [(5, .int (bestC f b)), (0, rf Λ (5 * i)), (1, .int s), (2, .int ((bsN f s b).1)), (3, .int ((bsN f s b).2)), (4, .int (nI b))]) hC dX0_baySavingMost_21 (by decide) rfl ?_
        refine v_aload_n hC dX0_baySavingMost_23 1 rfl ?_
        refine v_iload hC dX0_baySavingMost_24 5 rfl ?_
        refine v_aload_n hC dX0_baySavingMost_26 1 rfl ?_
        refine v_get (T := TX0) (N := 7) (v := rf Λ (5 * i + 2)) hC (5 * i) (rb_f0 hi) (cc_f0 Λ Y hi hf) in_X0_baySavingMost_X0 rfl 1 (by decide) fl_X0_baySavingMost_15 rfl dX0_baySavingMost_27 ?_
        refine v_iload hC dX0_baySavingMost_30 5 rfl ?_
        refine v_iald (n := 8) (f := (fk f)) hC (5 * i + 2) (rb_f hi (by decide)) (cc_f2 Λ Y hi hf) b rfl (by omega) (by decide) dX0_baySavingMost_32 ?_
        refine v_callVr (v := .int (unitsC f b ((fk f) b))) (C2 := CC Λ X Y) (As := [.int (nI b), .int ((fk f) b)]) (rest := []) hC 2 (5 * i) (c_X0_unitsAs Λ X Y (i := i) (f := f) hi hf (b := b) (k := (fk f) b) (by omega)) (rb_f0 hi) (cc_f0 Λ Y hi hf) rfl gX0_baySavingMost_X0_unitsAs rfl rfl rfl hd_X0_unitsAs ⟨by decide, by decide⟩ rfl rfl (Nat.le_of_ble_eq_true rfl) dX0_baySavingMost_33 ?_
        refine v_aload_n hC dX0_baySavingMost_36 1 rfl ?_
        refine v_iload hC dX0_baySavingMost_37 5 rfl ?_
        refine v_iload hC dX0_baySavingMost_39 0 rfl ?_
        refine v_callVr (v := .int (unitsC f b (bestC f b))) (C2 := CC Λ X Y) (As := [.int (nI b), .int (bestC f b)]) (rest := [.int (unitsC f b ((fk f) b))]) hC 2 (5 * i) (c_X0_unitsAs Λ X Y (i := i) (f := f) hi hf (b := b) (k := bestC f b) (by omega)) (rb_f0 hi) (cc_f0 Λ Y hi hf) rfl gX0_baySavingMost_X0_unitsAs rfl rfl rfl hd_X0_unitsAs ⟨by decide, by decide⟩ rfl rfl (Nat.le_of_ble_eq_true rfl) dX0_baySavingMost_41 ?_
        refine v_isub (x := unitsC f b ((fk f) b)) (y := unitsC f b (bestC f b)) hC dX0_baySavingMost_44 ?_
        refine v_istore (lv' := [(6, .int ((unitsC f b ((fk f) b)) - (unitsC f b (bestC f b)))), (5, .int (bestC f b)), (0, rf Λ (5 * i)), (1, .int s), (2, .int ((bsN f s b).1)), (3, .int ((bsN f s b).2)), (4, .int (nI b))]) hC dX0_baySavingMost_45 (by decide) rfl ?_
        refine v_iload_n hC dX0_baySavingMost_47 3 rfl ?_
        refine v_iload hC dX0_baySavingMost_48 6 rfl ?_
        refine v_ishr (x := s) (y := nI b) hC dX0_baySavingMost_50 ?_
        refine v_iconst (v := 1) hC dX0_baySavingMost_51 (by decide) ?_
        refine v_iand (x := s >>> ((nI b) &&& 31)) (y := 1) hC dX0_baySavingMost_52 ?_
        refine v_topi (y := bI (bt s b)) (bit32 _ (by omega)) ?_
        refine v_bne (b := bt s b) (tgt := 80) hC dX0_baySavingMost_53 (by decide) (fun c53 => ?_) (fun c53 => ?_)
        · skip
          refine v_iinc (j := 6) (v := nI (b + 1)) (lv' := [(4, .int (nI (b + 1))), (6, .int ((unitsC f b ((fk f) b)) - (unitsC f b (bestC f b)))), (5, .int (bestC f b)), (0, rf Λ (5 * i)), (1, .int s), (2, .int ((bsN f s b).1)), (3, .int ((bsN f s b).2))]) hC dX0_baySavingMost_80 rfl (nI_add b 1) (by decide) rfl ?_
          refine v_goto (tgt := 8) hC dX0_baySavingMost_83 (by decide) ?_
          refine v_sub (lv' := [(0, rf Λ (5 * i)), (1, .int s), (2, .int ((bsN f s b).1)), (3, .int ((bsN f s b).2)), (4, .int (nI (b + 1)))]) [3, 4, 5, 6, 0] rfl ?_
          exact ih8 (b + 1) _ _ _ (by omega) (by simp [bsN, c12, c12', c53]) (by simp [bsN, c12, c12', c53]) rfl (by omega)
        · skip
          refine v_aload_n hC dX0_baySavingMost_56 2 rfl ?_
          refine v_get (T := TX0) (N := 7) (v := rf Λ (5 * i + 2)) hC (5 * i) (rb_f0 hi) (cc_f0 Λ Y hi hf) in_X0_baySavingMost_X0 rfl 1 (by decide) fl_X0_baySavingMost_15 rfl dX0_baySavingMost_57 ?_
          refine v_iload hC dX0_baySavingMost_60 6 rfl ?_
          refine v_iald (n := 8) (f := (fk f)) hC (5 * i + 2) (rb_f hi (by decide)) (cc_f2 Λ Y hi hf) b rfl (by omega) (by decide) dX0_baySavingMost_62 ?_
          refine v_iload hC dX0_baySavingMost_63 1 rfl ?_
          refine v_icmp_eq (x := (fk f) b) (y := bestC f b) (tgt := 80) hC dX0_baySavingMost_65 (by decide) (fun c65 => ?_) (fun c65 => ?_)
          · skip
            refine v_iinc (j := 6) (v := nI (b + 1)) (lv' := [(4, .int (nI (b + 1))), (6, .int ((unitsC f b ((fk f) b)) - (unitsC f b (bestC f b)))), (5, .int (bestC f b)), (0, rf Λ (5 * i)), (1, .int s), (2, .int ((bsN f s b).1)), (3, .int ((bsN f s b).2))]) hC dX0_baySavingMost_80 rfl (nI_add b 1) (by decide) rfl ?_
            refine v_goto (tgt := 8) hC dX0_baySavingMost_83 (by decide) ?_
            refine v_sub (lv' := [(0, rf Λ (5 * i)), (1, .int s), (2, .int ((bsN f s b).1)), (3, .int ((bsN f s b).2)), (4, .int (nI (b + 1)))]) [3, 4, 5, 6, 0] rfl ?_
            exact ih8 (b + 1) _ _ _ (by omega) (by simp [bsN, c12, c12', c53, c65]) (by simp [bsN, c12, c12', c53, c65]) rfl (by omega)
          · skip
            refine v_iload hC dX0_baySavingMost_68 0 rfl ?_
            refine v_iload_n hC dX0_baySavingMost_70 5 rfl ?_
            refine v_icmp_le (x := (unitsC f b ((fk f) b)) - (unitsC f b (bestC f b))) (y := (bsN f s b).2) (tgt := 80) hC dX0_baySavingMost_71 (by decide) (fun c71 => ?_) (fun c71 => ?_)
            · have c71' := Int32.not_lt.mpr c71
              refine v_iinc (j := 6) (v := nI (b + 1)) (lv' := [(4, .int (nI (b + 1))), (6, .int ((unitsC f b ((fk f) b)) - (unitsC f b (bestC f b)))), (5, .int (bestC f b)), (0, rf Λ (5 * i)), (1, .int s), (2, .int ((bsN f s b).1)), (3, .int ((bsN f s b).2))]) hC dX0_baySavingMost_80 rfl (nI_add b 1) (by decide) rfl ?_
              refine v_goto (tgt := 8) hC dX0_baySavingMost_83 (by decide) ?_
              refine v_sub (lv' := [(0, rf Λ (5 * i)), (1, .int s), (2, .int ((bsN f s b).1)), (3, .int ((bsN f s b).2)), (4, .int (nI (b + 1)))]) [3, 4, 5, 6, 0] rfl ?_
              exact ih8 (b + 1) _ _ _ (by omega) (by simp [bsN, c12, c12', c53, c65, c71, c71']) (by simp [bsN, c12, c12', c53, c65, c71, c71']) rfl (by omega)
            · have c71' := Int32.not_le.mp c71
              refine v_iload hC dX0_baySavingMost_74 6 rfl ?_
              refine v_istore_n (lv' := [(2, .int (nI b)), (6, .int ((unitsC f b ((fk f) b)) - (unitsC f b (bestC f b)))), (5, .int (bestC f b)), (0, rf Λ (5 * i)), (1, .int s), (3, .int ((bsN f s b).2)), (4, .int (nI b))]) hC dX0_baySavingMost_76 (by decide) rfl ?_
              refine v_iload hC dX0_baySavingMost_77 1 rfl ?_
              refine v_istore_n (lv' := [(3, .int ((unitsC f b ((fk f) b)) - (unitsC f b (bestC f b)))), (2, .int (nI b)), (6, .int ((unitsC f b ((fk f) b)) - (unitsC f b (bestC f b)))), (5, .int (bestC f b)), (0, rf Λ (5 * i)), (1, .int s), (4, .int (nI b))]) hC dX0_baySavingMost_79 (by decide) rfl ?_
              refine v_iinc (j := 6) (v := nI (b + 1)) (lv' := [(4, .int (nI (b + 1))), (3, .int ((unitsC f b ((fk f) b)) - (unitsC f b (bestC f b)))), (2, .int (nI b)), (6, .int ((unitsC f b ((fk f) b)) - (unitsC f b (bestC f b)))), (5, .int (bestC f b)), (0, rf Λ (5 * i)), (1, .int s)]) hC dX0_baySavingMost_80 rfl (nI_add b 1) (by decide) rfl ?_
              refine v_goto (tgt := 8) hC dX0_baySavingMost_83 (by decide) ?_
              refine v_sub (lv' := [(0, rf Λ (5 * i)), (1, .int s), (2, .int (nI b)), (3, .int ((unitsC f b ((fk f) b)) - (unitsC f b (bestC f b)))), (4, .int (nI (b + 1)))]) [5, 6, 2, 1, 0] rfl ?_
              exact ih8 (b + 1) _ _ _ (by omega) (by simp [bsN, c12, c12', c53, c65, c71, c71']) (by simp [bsN, c12, c12', c53, c65, c71, c71']) rfl (by omega)
  refine v_sub (lv' := [(0, rf Λ (5 * i)), (1, .int s), (2, .int (-5)), (3, .int (-1)), (4, .int 0)]) [3, 4, 2, 1, 0] rfl ?_
  exact L8 _ 0 _ _ _ (by omega) rfl rfl rfl (Nat.lt_succ_self _)
theorem in_X0_enterHarbour_X0 : ∀ w ∈ wsX00, w ∈ wsX0_enterHarbour := by decide +kernel
theorem fl_X0_enterHarbour_35 : Cond.fieldLink RX0 35 "BoatSets$Fleet" "atSea" "Z" ∈ wsX0_enterHarbour := by decide +kernel
theorem hd_X0_enterHarbour : yX0_enterHarbour.cls = RX0 ∧ yX0_enterHarbour.cls ≠ "java/lang/invoke/MethodHandle" ∧ yX0_enterHarbour.cls ≠ "java/lang/invoke/VarHandle" ∧ (parseMethodDescriptor yX0_enterHarbour.desc).map (fun d => d.parameters.length) = some 0 := by decide +kernel
set_option maxHeartbeats 400000 in
set_option maxRecDepth 100000 in
theorem c_X0_enterHarbour (Λ : Lk) (X : XS) (Y : YS) {i : Nat} {f : FR} (hi : i < 37) (hf : X.1 i = f) : Con Λ yX0_enterHarbour wsX0_enterHarbour { frames := 3, cells := 0, slots := 0, locals := 70 } [rf Λ (5 * i)] (CC Λ X Y) (some (.int ((ehF 8 (faS f false) 0 0).2))) (CC Λ (xFi X i (ehF 8 (faS f false) 0 0).1) Y) := by
  refine con_start (cc := cX0_enterHarbour) (maxL := 5) (ret := (some .int)) (by decide) rfl (Nat.le_of_ble_eq_true rfl) ?_
  intro κ hC hR
  have hC : Ok Λ { frames := 3, cells := 0, slots := 0, locals := 70 } cX0_enterHarbour wsX0_enterHarbour RX0 5 κ := hC
  refine v_args (lv' := [(0, rf Λ (5 * i))]) rfl ?_
  refine v_mem (congrArg (fun Z => CC Λ Z Y) (xFi_self hf)) ?_
  refine v_aload_n hC dX0_enterHarbour_0 0 rfl ?_
  refine v_iconst (v := 0) hC dX0_enterHarbour_1 (by decide) ?_
  refine v_put (T := TX0) (N := 7) (v := .int 0) (ty := .boolean) hC (5 * i) (rb_f0 hi) (cc_f0 Λ Y hi (xFi_at X i f)) in_X0_enterHarbour_X0 tyX0 tyX0_ok nmX0 rfl 6 (by decide) fl_X0_enterHarbour_35 rfl (by decide +kernel) (by first | rfl | exact nar_b _) rfl (Nat.le_of_ble_eq_true rfl) dX0_enterHarbour_2 ?_
  refine v_mem (cs_fa Λ X Y f false hi) ?_
  refine v_iconst (v := 0) hC dX0_enterHarbour_5 (by decide) ?_
  refine v_istore_n (lv' := [(1, .int 0), (0, rf Λ (5 * i))]) hC dX0_enterHarbour_6 (by decide) rfl ?_
  refine v_iconst (v := 0) hC dX0_enterHarbour_7 (by decide) ?_
  refine v_istore_n (lv' := [(2, .int 0), (1, .int 0), (0, rf Λ (5 * i))]) hC dX0_enterHarbour_8 (by decide) rfl ?_
  refine v_iconst (v := 0) hC dX0_enterHarbour_9 (by decide) ?_
  refine v_istore_n (lv' := [(3, .int 0), (2, .int 0), (1, .int 0), (0, rf Λ (5 * i))]) hC dX0_enterHarbour_10 (by decide) rfl ?_
  have L11 : ∀ (fu11 : Nat) (t : Nat) (g : FR) (T : Int32) (S : Int32) (x3 : Int32), t ≤ 8 → ehF (8 - t) g T S = ehF 8 (faS f false) 0 0 → x3 = nI t → 8 - t < fu11 → V Λ κ (CC Λ (xFi X i g) Y) 11 [(0, rf Λ (5 * i)), (1, .int T), (2, .int S), (3, .int x3)] [] := by
    intro fu11
    induction fu11 with
    | zero => intro t g T S x3 ht hr e3 hfu11; exact absurd hfu11 (Nat.not_lt_zero _)
    | succ fu11 ih11 =>
      intro t g T S x3 ht hr e3 hfu11
      subst e3
      refine v_iload_n hC dX0_enterHarbour_11 3 rfl ?_
      refine v_bipush (v := 8) hC dX0_enterHarbour_12 (by decide) ?_
      refine v_nge (a := t) (b := 8) (tgt := 53) hC dX0_enterHarbour_14 (by decide) rfl rfl (by omega) (by omega) (fun c14 => ?_) (fun c14 => ?_)
      · have c14' := Nat.not_lt.mpr c14
        refine v_iload_n hC dX0_enterHarbour_53 1 rfl ?_
        have e : ehF 8 (faS f false) 0 0 = (g, T) := by rw [← hr, show 8 - t = 0 by omega]; rfl
        exact v_iretB hC hR e dX0_enterHarbour_54
      · have c14' := Nat.not_le.mpr c14
        refine v_aload_n hC dX0_enterHarbour_17 0 rfl ?_
        refine v_iload_n hC dX0_enterHarbour_18 2 rfl ?_
        refine v_callVr (v := .int ((bsN g S 8).1)) (C2 := CC Λ (xFi X i g) Y) (As := [.int S]) (rest := []) hC 1 (5 * i) (c_X0_baySavingMost Λ (xFi X i g) Y (i := i) (f := g) hi (xFi_at X i g) (s := S)) (rb_f0 hi) (cc_f0 Λ Y hi (xFi_at X i g)) rfl gX0_enterHarbour_X0_baySavingMost rfl rfl rfl hd_X0_baySavingMost ⟨by decide, by decide⟩ rfl rfl (Nat.le_of_ble_eq_true rfl) dX0_enterHarbour_19 ?_
        refine v_istore (lv' := [(4, .int ((bsN g S 8).1)), (0, rf Λ (5 * i)), (1, .int T), (2, .int S), (3, .int (nI t))]) hC dX0_enterHarbour_22 (by decide) rfl ?_
        refine v_iload hC dX0_enterHarbour_24 0 rfl ?_
        refine v_bipush (v := (-5)) hC dX0_enterHarbour_26 (by decide) ?_
        refine v_icmp_eq (x := (bsN g S 8).1) (y := (-5)) (tgt := 47) hC dX0_enterHarbour_28 (by decide) (fun c28 => ?_) (fun c28 => ?_)
        · skip
          refine v_iinc (j := 4) (v := nI (t + 1)) (lv' := [(3, .int (nI (t + 1))), (4, .int ((bsN g S 8).1)), (0, rf Λ (5 * i)), (1, .int T), (2, .int S)]) hC dX0_enterHarbour_47 rfl (nI_add t 1) (by decide) rfl ?_
          refine v_goto (tgt := 11) hC dX0_enterHarbour_50 (by decide) ?_
          refine v_sub (lv' := [(0, rf Λ (5 * i)), (1, .int T), (2, .int S), (3, .int (nI (t + 1)))]) [2, 3, 4, 0] rfl ?_
          refine v_mem (C' := CC Λ (xFi X i g) Y) rfl ?_
          exact ih11 (t + 1) g T S _ (by omega) (by rw [← hr, show 8 - t = (8 - (t + 1)) + 1 by omega, ehF, if_pos c28]) rfl (by omega)
        · skip
          obtain ⟨b, hb, eq1⟩ := bsN_some8 c28
          rw [eq1]
          refine v_iload_n hC dX0_enterHarbour_31 3 rfl ?_
          refine v_iconst (v := 1) hC dX0_enterHarbour_32 (by decide) ?_
          refine v_iload hC dX0_enterHarbour_33 0 rfl ?_
          refine v_ishl (x := 1) (y := nI b) hC dX0_enterHarbour_35 ?_
          refine v_ior (x := S) (y := 1 <<< ((nI b) &&& 31)) hC dX0_enterHarbour_36 ?_
          refine v_istore_n (lv' := [(2, .int (S ||| (1 <<< ((nI b) &&& 31)))), (4, .int (nI b)), (0, rf Λ (5 * i)), (1, .int T), (3, .int (nI t))]) hC dX0_enterHarbour_37 (by decide) rfl ?_
          refine v_iload_n hC dX0_enterHarbour_38 3 rfl ?_
          refine v_aload_n hC dX0_enterHarbour_39 2 rfl ?_
          refine v_iload hC dX0_enterHarbour_40 1 rfl ?_
          refine v_callVr (v := .int ((bbF g b).2)) (C2 := CC Λ (xFi (xFi X i g) i (bbF g b).1) Y) (As := [.int (nI b)]) (rest := [.int T]) hC 1 (5 * i) (c_X0_becomeBest Λ (xFi X i g) Y (i := i) (f := g) hi (xFi_at X i g) (b := b) (by omega)) (rb_f0 hi) (cc_f0 Λ Y hi (xFi_at X i g)) rfl gX0_enterHarbour_X0_becomeBest rfl rfl rfl hd_X0_becomeBest ⟨by decide, by decide⟩ rfl rfl (Nat.le_of_ble_eq_true rfl) dX0_enterHarbour_42 ?_
          refine v_mem (mem_X (xFi_2 X i g (bbF g b).1)) ?_
          refine v_iadd (x := T) (y := (bbF g b).2) hC dX0_enterHarbour_45 ?_
          refine v_istore_n (lv' := [(1, .int (T + ((bbF g b).2))), (2, .int (S ||| (1 <<< ((nI b) &&& 31)))), (4, .int (nI b)), (0, rf Λ (5 * i)), (3, .int (nI t))]) hC dX0_enterHarbour_46 (by decide) rfl ?_
          refine v_iinc (j := 4) (v := nI (t + 1)) (lv' := [(3, .int (nI (t + 1))), (1, .int (T + ((bbF g b).2))), (2, .int (S ||| (1 <<< ((nI b) &&& 31)))), (4, .int (nI b)), (0, rf Λ (5 * i))]) hC dX0_enterHarbour_47 rfl (nI_add t 1) (by decide) rfl ?_
          refine v_goto (tgt := 11) hC dX0_enterHarbour_50 (by decide) ?_
          refine v_sub (lv' := [(0, rf Λ (5 * i)), (1, .int (T + ((bbF g b).2))), (2, .int (S ||| (1 <<< ((nI b) &&& 31)))), (3, .int (nI (t + 1)))]) [4, 1, 2, 0] rfl ?_
          refine v_mem (C' := CC Λ (xFi X i ((bbF g b).1)) Y) rfl ?_
          exact ih11 (t + 1) ((bbF g b).1) (T + (bbF g b).2) (S ||| (1 : Int32) <<< (nI b &&& 31)) _ (by omega) (by rw [← hr, show 8 - t = (8 - (t + 1)) + 1 by omega, ehF, if_neg c28, eq1, ix_nI (by omega)]) rfl (by omega)
  refine v_sub (lv' := [(0, rf Λ (5 * i)), (1, .int 0), (2, .int 0), (3, .int 0)]) [3, 2, 1, 0] rfl ?_
  refine v_mem (C' := CC Λ (xFi X i (faS f false)) Y) rfl ?_
  exact L11 _ 0 (faS f false) 0 0 _ (by omega) rfl rfl (Nat.lt_succ_self _)
theorem wd_X0_move_ml65 : Cond.methodLink RX0 65 Lib.Math.max.name ∈ wsX0_move := by decide +kernel
theorem wd_X0_move_ms65 : Cond.static Lib.Math.max.name ∈ wsX0_move := by decide +kernel
theorem wd_X0_move_minit : Cond.initialized "java/lang/Math" ∈ wsX0_move := by decide +kernel
theorem wd_X0_move_mc65 : Cond.code Lib.Math.max.name Lib.Math.max.code 2 (some .int) ∈ wsX0_move := by decide +kernel
theorem wd_X0_move_ml71 : Cond.methodLink RX0 71 Lib.Math.min.name ∈ wsX0_move := by decide +kernel
theorem wd_X0_move_ms71 : Cond.static Lib.Math.min.name ∈ wsX0_move := by decide +kernel
theorem wd_X0_move_mc71 : Cond.code Lib.Math.min.name Lib.Math.min.code 2 (some .int) ∈ wsX0_move := by decide +kernel
theorem hd_X0_move : yX0_move.cls = RX0 ∧ yX0_move.cls ≠ "java/lang/invoke/MethodHandle" ∧ yX0_move.cls ≠ "java/lang/invoke/VarHandle" ∧ (parseMethodDescriptor yX0_move.desc).map (fun d => d.parameters.length) = some 3 := by decide +kernel
set_option maxHeartbeats 400000 in
set_option maxRecDepth 100000 in
theorem c_X0_move (Λ : Lk) (X : XS) (Y : YS) {i : Nat} {f : FR} (hi : i < 37) (hf : X.1 i = f) {u : Nat} {v : Nat} {cm : Bool} (hu : u < 2048) (hv : v < 2048) : Con Λ yX0_move wsX0_move { frames := 4, cells := 0, slots := 0, locals := 88 } [rf Λ (5 * i), .int (nI u), .int (nI v), .int (bI cm)] (CC Λ X Y) (some (.int ((mvF cm (v + 1 - u) u 0 f).2))) (CC Λ (xFi X i (mvF cm (v + 1 - u) u 0 f).1) Y) := by
  refine con_start (cc := cX0_move) (maxL := 8) (ret := (some .int)) (by decide) rfl (Nat.le_of_ble_eq_true rfl) ?_
  intro κ hC hR
  have hC : Ok Λ { frames := 4, cells := 0, slots := 0, locals := 88 } cX0_move wsX0_move RX0 8 κ := hC
  refine v_args (lv' := [(0, rf Λ (5 * i)), (1, .int (nI u)), (2, .int (nI v)), (3, .int (bI cm))]) rfl ?_
  refine v_mem (congrArg (fun Z => CC Λ Z Y) (xFi_self hf)) ?_
  refine v_iload_n hC dX0_move_0 1 rfl ?_
  refine v_iconst (v := 0) hC dX0_move_1 (by decide) ?_
  refine v_mmax hC (z := nI u) wd_X0_move_ml65 wd_X0_move_ms65 wd_X0_move_minit wd_X0_move_mc65 (by decide) (by decide) (mx0 (by omega)) dX0_move_2 ?_
  refine v_istore (lv' := [(4, .int (nI u)), (0, rf Λ (5 * i)), (1, .int (nI u)), (2, .int (nI v)), (3, .int (bI cm))]) hC dX0_move_5 (by decide) rfl ?_
  refine v_iload_n hC dX0_move_7 3 rfl ?_
  refine v_sipush (v := 2047) hC dX0_move_8 (by decide) ?_
  refine v_mmin hC (z := nI v) wd_X0_move_ml71 wd_X0_move_ms71 wd_X0_move_minit wd_X0_move_mc71 (by decide) (by decide) (mn2 (by omega)) dX0_move_11 ?_
  refine v_istore (lv' := [(5, .int (nI v)), (4, .int (nI u)), (0, rf Λ (5 * i)), (1, .int (nI u)), (2, .int (nI v)), (3, .int (bI cm))]) hC dX0_move_14 (by decide) rfl ?_
  refine v_iconst (v := 0) hC dX0_move_16 (by decide) ?_
  refine v_istore (lv' := [(6, .int 0), (5, .int (nI v)), (4, .int (nI u)), (0, rf Λ (5 * i)), (1, .int (nI u)), (2, .int (nI v)), (3, .int (bI cm))]) hC dX0_move_17 (by decide) rfl ?_
  refine v_iload hC dX0_move_19 2 rfl ?_
  refine v_istore (lv' := [(7, .int (nI u)), (6, .int 0), (5, .int (nI v)), (4, .int (nI u)), (0, rf Λ (5 * i)), (1, .int (nI u)), (2, .int (nI v)), (3, .int (bI cm))]) hC dX0_move_21 (by decide) rfl ?_
  have L23 : ∀ (fu23 : Nat) (n : Nat) (m : Nat) (g : FR) (x6 : Int32) (x7 : Int32), n ≤ 2048 → m ≤ n → mvF cm (v + 1 - n) n m g = mvF cm (v + 1 - u) u 0 f → x6 = nI m → x7 = nI n → 2048 - n < fu23 → V Λ κ (CC Λ (xFi X i g) Y) 23 [(0, rf Λ (5 * i)), (1, .int (nI u)), (2, .int (nI v)), (3, .int (bI cm)), (4, .int (nI u)), (5, .int (nI v)), (6, .int x6), (7, .int x7)] [] := by
    intro fu23
    induction fu23 with
    | zero => intro n m g x6 x7 hn hm hr e6 e7 hfu23; exact absurd hfu23 (Nat.not_lt_zero _)
    | succ fu23 ih23 =>
      intro n m g x6 x7 hn hm hr e6 e7 hfu23
      subst e6
      subst e7
      refine v_iload hC dX0_move_23 7 rfl ?_
      refine v_iload hC dX0_move_25 5 rfl ?_
      refine v_ngt (a := n) (b := v) (tgt := 71) hC dX0_move_27 (by decide) rfl rfl (by omega) (by omega) (fun c27 => ?_) (fun c27 => ?_)
      · have c27' := Nat.not_le.mpr c27
        refine v_iload hC dX0_move_71 6 rfl ?_
        have e : mvF cm (v + 1 - u) u 0 f = (g, nI m) := by rw [← hr, show v + 1 - n = 0 by omega]; rfl
        exact v_iretB hC hR e dX0_move_73
      · have c27' := Nat.not_lt.mpr c27
        refine v_aload_n hC dX0_move_30 0 rfl ?_
        refine v_iload hC dX0_move_31 7 rfl ?_
        refine v_callVr (v := .int (bI (fbit (fw g) n))) (C2 := CC Λ (xFi X i g) Y) (As := [.int (nI n)]) (rest := []) hC 1 (5 * i) (c_X0_holds Λ (xFi X i g) Y (i := i) (f := g) hi (xFi_at X i g) (n := n) (by omega)) (rb_f0 hi) (cc_f0 Λ Y hi (xFi_at X i g)) rfl gX0_move_X0_holds rfl rfl rfl hd_X0_holds ⟨by decide, by decide⟩ rfl rfl (Nat.le_of_ble_eq_true rfl) dX0_move_33 ?_
        refine v_iload_n hC dX0_move_36 3 rfl ?_
        refine v_ceq (a := fbit (fw g) n) (b := cm) (tgt := 65) hC dX0_move_37 (by decide) rfl rfl (fun c37 => ?_) (fun c37 => ?_)
        · skip
          refine v_iinc (j := 7) (v := nI (n + 1)) (lv' := [(7, .int (nI (n + 1))), (0, rf Λ (5 * i)), (1, .int (nI u)), (2, .int (nI v)), (3, .int (bI cm)), (4, .int (nI u)), (5, .int (nI v)), (6, .int (nI m))]) hC dX0_move_65 rfl (nI_add n 1) (by decide) rfl ?_
          refine v_goto (tgt := 23) hC dX0_move_68 (by decide) ?_
          refine v_sub (lv' := [(0, rf Λ (5 * i)), (1, .int (nI u)), (2, .int (nI v)), (3, .int (bI cm)), (4, .int (nI u)), (5, .int (nI v)), (6, .int (nI m)), (7, .int (nI (n + 1)))]) [1, 2, 3, 4, 5, 6, 7, 0] rfl ?_
          refine v_mem (C' := CC Λ (xFi X i g) Y) rfl ?_
          exact ih23 (n + 1) m g _ _ (by omega) (by omega) (by rw [← hr, show v + 1 - n = (v + 1 - (n + 1)) + 1 by omega, mvF, if_pos c37]) rfl rfl (by omega)
        · skip
          refine v_aload_n hC dX0_move_40 0 rfl ?_
          refine v_iload hC dX0_move_41 7 rfl ?_
          refine v_callVv (C2 := CC Λ (xFi (xFi X i g) i (flipF g n)) Y) (As := [.int (nI n)]) (rest := []) hC 1 (5 * i) (c_X0_flip Λ (xFi X i g) Y (i := i) (f := g) hi (xFi_at X i g) (n := n) (by omega)) (rb_f0 hi) (cc_f0 Λ Y hi (xFi_at X i g)) rfl gX0_move_X0_flip rfl rfl rfl hd_X0_flip ⟨by decide, by decide⟩ rfl rfl (Nat.le_of_ble_eq_true rfl) dX0_move_43 ?_
          refine v_mem (mem_X (xFi_2 X i g (flipF g n))) ?_
          refine v_aload_n hC dX0_move_46 0 rfl ?_
          refine v_iload hC dX0_move_47 7 rfl ?_
          refine v_sipush (v := 256) hC dX0_move_49 (by decide) ?_
          refine v_idiv (x := nI n) (y := 256) hC dX0_move_52 (by decide) ?_
          refine v_topi (y := nI (n / 256)) (pk_div (a := n) (d := 256) (by omega) (by decide) (by decide)) ?_
          refine v_callVr (v := .int (bI ((adF (flipF g n) (n / 256)).2))) (C2 := CC Λ (xFi (xFi X i (flipF g n)) i (adF (flipF g n) (n / 256)).1) Y) (As := [.int (nI (n / 256))]) (rest := []) hC 1 (5 * i) (c_X0_adaptBoat Λ (xFi X i (flipF g n)) Y (i := i) (f := (flipF g n)) hi (xFi_at X i (flipF g n)) (b := n / 256) (by omega)) (rb_f0 hi) (cc_f0 Λ Y hi (xFi_at X i (flipF g n))) rfl gX0_move_X0_adaptBoat rfl rfl rfl hd_X0_adaptBoat ⟨by decide, by decide⟩ rfl rfl (Nat.le_of_ble_eq_true rfl) dX0_move_53 ?_
          refine v_mem (mem_X (xFi_2 X i (flipF g n) (adF (flipF g n) (n / 256)).1)) ?_
          refine v_bne (b := (adF (flipF g n) (n / 256)).2) (tgt := 62) hC dX0_move_56 (by decide) (fun c56 => ?_) (fun c56 => ?_)
          · skip
            refine v_iinc (j := 6) (v := nI (m + 1)) (lv' := [(6, .int (nI (m + 1))), (0, rf Λ (5 * i)), (1, .int (nI u)), (2, .int (nI v)), (3, .int (bI cm)), (4, .int (nI u)), (5, .int (nI v)), (7, .int (nI n))]) hC dX0_move_62 rfl (nI_add m 1) (by decide) rfl ?_
            refine v_iinc (j := 7) (v := nI (n + 1)) (lv' := [(7, .int (nI (n + 1))), (6, .int (nI (m + 1))), (0, rf Λ (5 * i)), (1, .int (nI u)), (2, .int (nI v)), (3, .int (bI cm)), (4, .int (nI u)), (5, .int (nI v))]) hC dX0_move_65 rfl (nI_add n 1) (by decide) rfl ?_
            refine v_goto (tgt := 23) hC dX0_move_68 (by decide) ?_
            refine v_sub (lv' := [(0, rf Λ (5 * i)), (1, .int (nI u)), (2, .int (nI v)), (3, .int (bI cm)), (4, .int (nI u)), (5, .int (nI v)), (6, .int (nI (m + 1))), (7, .int (nI (n + 1)))]) [2, 3, 4, 5, 6, 7, 1, 0] rfl ?_
            refine v_mem (C' := CC Λ (xFi X i ((adF (flipF g n) (n / 256)).1)) Y) rfl ?_
            exact ih23 (n + 1) (m + 1) ((adF (flipF g n) (n / 256)).1) _ _ (by omega) (by omega) (by rw [← hr, show v + 1 - n = (v + 1 - (n + 1)) + 1 by omega, mvF, if_neg c37, if_pos c56]) rfl rfl (by omega)
          · skip
            refine v_bipush (v := (-3)) hC dX0_move_59 (by decide) ?_
            have e : mvF cm (v + 1 - u) u 0 f = ((adF (flipF g n) (n / 256)).1, (-3)) := by rw [← hr, show v + 1 - n = (v + 1 - (n + 1)) + 1 by omega, mvF, if_neg c37, if_neg (by rw [c56]; decide)]
            exact v_iretB hC hR e dX0_move_61
  refine v_sub (lv' := [(0, rf Λ (5 * i)), (1, .int (nI u)), (2, .int (nI v)), (3, .int (bI cm)), (4, .int (nI u)), (5, .int (nI v)), (6, .int 0), (7, .int (nI u))]) [4, 5, 6, 7, 3, 2, 1, 0] rfl ?_
  refine v_mem (C' := CC Λ (xFi X i f) Y) rfl ?_
  exact L23 _ u 0 f _ _ (by omega) (by omega) rfl rfl rfl (Nat.lt_succ_self _)
