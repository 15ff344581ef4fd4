theorem in_X1_copyFrom_X1 : ∀ w ∈ wsX10, w ∈ wsX1_copyFrom := by decide +kernel
theorem fl_X1_copyFrom_18 : Cond.fieldLink RX1 18 "BoatSets$Harbour" "sets" "I" ∈ wsX1_copyFrom := by decide +kernel
theorem fl_X1_copyFrom_11 : Cond.fieldLink RX1 11 "BoatSets$Harbour" "fleets" "[LBoatSets$Fleet;" ∈ wsX1_copyFrom := by decide +kernel
theorem hd_X1_copyFrom : yX1_copyFrom.cls = RX1 ∧ yX1_copyFrom.cls ≠ "java/lang/invoke/MethodHandle" ∧ yX1_copyFrom.cls ≠ "java/lang/invoke/VarHandle" ∧ (parseMethodDescriptor yX1_copyFrom.desc).map (fun d => d.parameters.length) = some 1 := by decide +kernel
set_option maxHeartbeats 400000 in
set_option maxRecDepth 100000 in
theorem c_X1_copyFrom (Λ : Lk) (X : XS) (Y : YS) {h : Nat} (hh : h < 6) {g : Nat} (hg : g < 6) {m : Nat} (hs0 : xh X g = nI m) (hm : m ≤ 6) (hgh : g ≠ h) : Con Λ yX1_copyFrom wsX1_copyFrom { frames := 2, cells := 0, slots := 0, locals := 61 } [rf Λ (185 + 2 * h), rf Λ (185 + 2 * g)] (CC Λ X Y) none (CC Λ (cpH X h g m m) Y) := by
  refine con_start (cc := cX1_copyFrom) (maxL := 3) (ret := none) (by decide) rfl (Nat.le_of_ble_eq_true rfl) ?_
  intro κ hC hR
  have hC : Ok Λ { frames := 2, cells := 0, slots := 0, locals := 61 } cX1_copyFrom wsX1_copyFrom RX1 3 κ := hC
  refine v_args (lv' := [(0, rf Λ (185 + 2 * h)), (1, rf Λ (185 + 2 * g))]) rfl ?_
  refine v_aload_n hC dX1_copyFrom_0 0 rfl ?_
  refine v_aload_n hC dX1_copyFrom_1 1 rfl ?_
  refine v_get (T := TX1) (N := 2) (v := .int ((xh X) g)) hC (185 + 2 * g) (rb_h hg) (cc_h Λ X Y hg) in_X1_copyFrom_X1 rfl 1 (by decide) fl_X1_copyFrom_18 rfl dX1_copyFrom_2 ?_
  refine v_topi (y := nI m) hs0 ?_
  refine v_put (T := TX1) (N := 2) (v := .int (nI m)) (ty := .int) hC (185 + 2 * h) (rb_h hh) (cc_h Λ X Y hh) in_X1_copyFrom_X1 tyX1 tyX1_ok nmX1 rfl 1 (by decide) fl_X1_copyFrom_18 rfl (by decide +kernel) rfl rfl (Nat.le_of_ble_eq_true rfl) dX1_copyFrom_5 ?_
  refine v_mem (cs_hs Λ X Y hh (nI m)) ?_
  refine v_iconst (v := 0) hC dX1_copyFrom_8 (by decide) ?_
  refine v_istore_n (lv' := [(2, .int 0), (0, rf Λ (185 + 2 * h)), (1, rf Λ (185 + 2 * g))]) hC dX1_copyFrom_9 (by decide) rfl ?_
  have L10 : ∀ (fu10 : Nat) (j : Nat) (x2 : Int32), j ≤ m → x2 = nI j → m - j < fu10 → V Λ κ (CC Λ (cpH X h g m j) Y) 10 [(0, rf Λ (185 + 2 * h)), (1, rf Λ (185 + 2 * g)), (2, .int x2)] [] := by
    intro fu10
    induction fu10 with
    | zero => intro j x2 hj e2 hfu10; exact absurd hfu10 (Nat.not_lt_zero _)
    | succ fu10 ih10 =>
      intro j x2 hj e2 hfu10
      subst e2
      refine v_iload_n hC dX1_copyFrom_10 2 rfl ?_
      refine v_aload_n hC dX1_copyFrom_11 0 rfl ?_
      refine v_get (T := TX1) (N := 2) (v := .int ((xh (cpH X h g m j)) h)) hC (185 + 2 * h) (rb_h hh) (cc_h Λ (cpH X h g m j) Y hh) in_X1_copyFrom_X1 rfl 1 (by decide) fl_X1_copyFrom_18 rfl dX1_copyFrom_12 ?_
      refine v_topi (y := nI m) cpH_h ?_
      refine v_nge (a := j) (b := m) (tgt := 39) hC dX1_copyFrom_15 (by decide) rfl rfl (by omega) (by omega) (fun c15 => ?_) (fun c15 => ?_)
      · have c15' := Nat.not_lt.mpr c15
        have e_j : m = j := by omega
        subst e_j
        exact v_vret hC hR rfl rfl dX1_copyFrom_39
      · have c15' := Nat.not_le.mpr c15
        refine v_aload_n hC dX1_copyFrom_18 0 rfl ?_
        refine v_get (T := TX1) (N := 2) (v := rf Λ (186 + 2 * h)) hC (185 + 2 * h) (rb_h hh) (cc_h Λ (cpH X h g m j) Y hh) in_X1_copyFrom_X1 rfl 0 (by decide) fl_X1_copyFrom_11 rfl dX1_copyFrom_19 ?_
        refine v_iload_n hC dX1_copyFrom_22 2 rfl ?_
        refine v_aald (Cn := "BoatSets$Fleet") (n := 6) (r2 := 5 * (6 * h + j)) hC (186 + 2 * h) (rb_hr hh) 3 rfl (cc_hr Λ (cpH X h g m j) Y hh) j rfl (by omega) (by decide) rfl dX1_copyFrom_23 ?_
        refine v_aload_n hC dX1_copyFrom_24 1 rfl ?_
        refine v_get (T := TX1) (N := 2) (v := rf Λ (186 + 2 * g)) hC (185 + 2 * g) (rb_h hg) (cc_h Λ (cpH X h g m j) Y hg) in_X1_copyFrom_X1 rfl 0 (by decide) fl_X1_copyFrom_11 rfl dX1_copyFrom_25 ?_
        refine v_iload_n hC dX1_copyFrom_28 2 rfl ?_
        refine v_aald (Cn := "BoatSets$Fleet") (n := 6) (r2 := 5 * (6 * g + j)) hC (186 + 2 * g) (rb_hr hg) 3 rfl (cc_hr Λ (cpH X h g m j) Y hg) j rfl (by omega) (by decide) rfl dX1_copyFrom_29 ?_
        refine v_callVv (C2 := CC Λ (xFi (cpH X h g m j) (6 * h + j) (cpF (hF (cpH X h g m j) g j) (hF (cpH X h g m j) h j))) Y) (As := [rf Λ (5 * (6 * g + j))]) (rest := []) hC 1 (5 * (6 * h + j)) (c_X0_copyFrom Λ (cpH X h g m j) Y (i := (6 * h + j)) (f := (hF (cpH X h g m j) h j)) (by omega) rfl (io := (6 * g + j)) (fo := (hF (cpH X h g m j) g j)) (by omega) rfl (by omega)) (rb_f0 (by omega)) (cc_f0 Λ Y (by omega) rfl) rfl gX1_copyFrom_X0_copyFrom rfl rfl rfl hd_X0_copyFrom ⟨by decide, by decide⟩ rfl rfl (Nat.le_of_ble_eq_true rfl) dX1_copyFrom_30 ?_
        refine v_iinc (j := 2) (v := nI (j + 1)) (lv' := [(2, .int (nI (j + 1))), (0, rf Λ (185 + 2 * h)), (1, rf Λ (185 + 2 * g))]) hC dX1_copyFrom_33 rfl (nI_add j 1) (by decide) rfl ?_
        refine v_goto (tgt := 10) hC dX1_copyFrom_36 (by decide) ?_
        refine v_sub (lv' := [(0, rf Λ (185 + 2 * h)), (1, rf Λ (185 + 2 * g)), (2, .int (nI (j + 1)))]) [1, 2, 0] rfl ?_
        refine v_mem (C' := CC Λ (cpH X h g m (j + 1)) Y) (mem_X (cpH_s hgh (by omega))) ?_
        exact ih10 (j + 1) _ (by omega) rfl (by omega)
  refine v_sub (lv' := [(0, rf Λ (185 + 2 * h)), (1, rf Λ (185 + 2 * g)), (2, .int 0)]) [1, 2, 0] rfl ?_
  refine v_mem (C' := CC Λ (cpH X h g m 0) Y) (mem_X cpH_0) ?_
  exact L10 _ 0 _ (by omega) rfl (Nat.lt_succ_self _)
theorem in_X1_open_X1 : ∀ w ∈ wsX10, w ∈ wsX1_open := by decide +kernel
theorem fl_X1_open_18 : Cond.fieldLink RX1 18 "BoatSets$Harbour" "sets" "I" ∈ wsX1_open := by decide +kernel
theorem fl_X1_open_11 : Cond.fieldLink RX1 11 "BoatSets$Harbour" "fleets" "[LBoatSets$Fleet;" ∈ wsX1_open := by decide +kernel
theorem hd_X1_open : yX1_open.cls = RX1 ∧ yX1_open.cls ≠ "java/lang/invoke/MethodHandle" ∧ yX1_open.cls ≠ "java/lang/invoke/VarHandle" ∧ (parseMethodDescriptor yX1_open.desc).map (fun d => d.parameters.length) = some 1 := by decide +kernel
set_option maxHeartbeats 400000 in
set_option maxRecDepth 100000 in
theorem c_X1_open (Λ : Lk) (X : XS) (Y : YS) {h : Nat} (hh : h < 6) {c : Int32} {m : Nat} (hm0 : xh X h = nI m) (hm6 : m < 6) : Con Λ yX1_open wsX1_open { frames := 3, cells := 0, slots := 0, locals := 65 } [rf Λ (185 + 2 * h), .int c] (CC Λ X Y) (some (.int (nI m))) (CC Λ (opH X h m c) Y) := by
  refine con_start (cc := cX1_open) (maxL := 2) (ret := (some .int)) (by decide) rfl (Nat.le_of_ble_eq_true rfl) ?_
  intro κ hC hR
  have hC : Ok Λ { frames := 3, cells := 0, slots := 0, locals := 65 } cX1_open wsX1_open RX1 2 κ := hC
  refine v_args (lv' := [(0, rf Λ (185 + 2 * h)), (1, .int c)]) rfl ?_
  refine v_aload_n hC dX1_open_0 0 rfl ?_
  refine v_get (T := TX1) (N := 2) (v := .int ((xh X) h)) hC (185 + 2 * h) (rb_h hh) (cc_h Λ X Y hh) in_X1_open_X1 rfl 1 (by decide) fl_X1_open_18 rfl dX1_open_1 ?_
  refine v_topi (y := nI m) hm0 ?_
  refine v_bipush (v := 6) hC dX1_open_4 (by decide) ?_
  refine v_nlt (a := m) (b := 6) (tgt := 12) hC dX1_open_6 (by decide) rfl rfl (by omega) (by omega) (fun c6 => ?_) (fun c6 => ?_)
  · have c6' := Nat.not_le.mpr c6
    refine v_aload_n hC dX1_open_12 0 rfl ?_
    refine v_get (T := TX1) (N := 2) (v := rf Λ (186 + 2 * h)) hC (185 + 2 * h) (rb_h hh) (cc_h Λ X Y hh) in_X1_open_X1 rfl 0 (by decide) fl_X1_open_11 rfl dX1_open_13 ?_
    refine v_aload_n hC dX1_open_16 0 rfl ?_
    refine v_get (T := TX1) (N := 2) (v := .int ((xh X) h)) hC (185 + 2 * h) (rb_h hh) (cc_h Λ X Y hh) in_X1_open_X1 rfl 1 (by decide) fl_X1_open_18 rfl dX1_open_17 ?_
    refine v_topi (y := nI m) hm0 ?_
    refine v_aald (Cn := "BoatSets$Fleet") (n := 6) (r2 := 5 * (6 * h + m)) hC (186 + 2 * h) (rb_hr hh) 3 rfl (cc_hr Λ X Y hh) m rfl (by omega) (by decide) rfl dX1_open_20 ?_
    refine v_iload_n hC dX1_open_21 1 rfl ?_
    refine v_callVv (C2 := CC Λ (xFi X (6 * h + m) (bgF (hF X h m) c)) Y) (As := [.int c]) (rest := []) hC 1 (5 * (6 * h + m)) (c_X0_begin Λ X Y (i := (6 * h + m)) (f := (hF X h m)) (by omega) rfl (c := c)) (rb_f0 (by omega)) (cc_f0 Λ Y (by omega) rfl) rfl gX1_open_X0_begin rfl rfl rfl hd_X0_begin ⟨by decide, by decide⟩ rfl rfl (Nat.le_of_ble_eq_true rfl) dX1_open_22 ?_
    refine v_aload_n hC dX1_open_25 0 rfl ?_
    refine v_dup hC dX1_open_26 rfl ?_
    refine v_get (T := TX1) (N := 2) (v := .int ((xh X) h)) hC (185 + 2 * h) (rb_h hh) (cc_h Λ (xFi X (6 * h + m) (bgF (hF X h m) c)) Y hh) in_X1_open_X1 rfl 1 (by decide) fl_X1_open_18 rfl dX1_open_27 ?_
    refine v_topi (y := nI m) hm0 ?_
    refine v_iconst (v := 1) hC dX1_open_30 (by decide) ?_
    refine v_iadd (x := nI m) (y := 1) hC dX1_open_31 ?_
    refine v_topi (y := nI (m + 1)) (nI_add m 1) ?_
    refine v_put (T := TX1) (N := 2) (v := .int (nI (m + 1))) (ty := .int) hC (185 + 2 * h) (rb_h hh) (cc_h Λ (xFi X (6 * h + m) (bgF (hF X h m) c)) Y hh) in_X1_open_X1 tyX1 tyX1_ok nmX1 rfl 1 (by decide) fl_X1_open_18 rfl (by decide +kernel) rfl rfl (Nat.le_of_ble_eq_true rfl) dX1_open_32 ?_
    refine v_mem (cs_hs Λ (xFi X (6 * h + m) (bgF (hF X h m) c)) Y hh (nI (m + 1))) ?_
    refine v_aload_n hC dX1_open_35 0 rfl ?_
    refine v_get (T := TX1) (N := 2) (v := .int ((va_up (xh X) h (nI (m + 1))) h)) hC (185 + 2 * h) (rb_h hh) (cc_h Λ (xhS (xFi X (6 * h + m) (bgF (hF X h m) c)) (va_up (xh X) h (nI (m + 1)))) Y hh) in_X1_open_X1 rfl 1 (by decide) fl_X1_open_18 rfl dX1_open_36 ?_
    refine v_topi (y := nI (m + 1)) (va_up_self _ _ _) ?_
    refine v_iconst (v := 1) hC dX1_open_39 (by decide) ?_
    refine v_isub (x := nI (m + 1)) (y := 1) hC dX1_open_40 ?_
    refine v_topi (y := nI ((m + 1) - 1)) (pk_sub (a := m + 1) (b := 1) (by omega)) ?_
    exact v_iret hC hR rfl rfl dX1_open_41
  · exfalso; omega
theorem in_X3_hasGoodValues_X3 : ∀ w ∈ wsX30, w ∈ wsX3_hasGoodValues := by decide +kernel
theorem fl_X3_hasGoodValues_22 : Cond.fieldLink RX3 22 "BoatSets$RangeText" "ranges" "I" ∈ wsX3_hasGoodValues := by decide +kernel
theorem fl_X3_hasGoodValues_15 : Cond.fieldLink RX3 15 "BoatSets$RangeText" "firsts" "[I" ∈ wsX3_hasGoodValues := by decide +kernel
theorem wd_X3_hasGoodValues_iniX4_isNumber : Cond.initialized (yX4_isNumber).cls ∈ wsX3_hasGoodValues := by decide +kernel
theorem wd_X3_hasGoodValues_stX4_isNumber : Cond.static yX4_isNumber ∈ wsX3_hasGoodValues := by decide +kernel
theorem fl_X3_hasGoodValues_19 : Cond.fieldLink RX3 19 "BoatSets$RangeText" "lasts" "[I" ∈ wsX3_hasGoodValues := by decide +kernel
theorem hd_X3_hasGoodValues : yX3_hasGoodValues.cls = RX3 ∧ yX3_hasGoodValues.cls ≠ "java/lang/invoke/MethodHandle" ∧ yX3_hasGoodValues.cls ≠ "java/lang/invoke/VarHandle" ∧ (parseMethodDescriptor yX3_hasGoodValues.desc).map (fun d => d.parameters.length) = some 0 := by decide +kernel
set_option maxHeartbeats 400000 in
set_option maxRecDepth 100000 in
theorem c_X3_hasGoodValues (Λ : Lk) (X : XS) (Y : YS) {r : Nat} (hr0 : xm X = nI r) (hr30 : r ≤ 30) : Con Λ yX3_hasGoodValues wsX3_hasGoodValues { frames := 1, cells := 0, slots := 0, locals := 20 } [rf Λ 200] (CC Λ X Y) (some (.int (bI (gvC (xb X) (xe X) r 0)))) (CC Λ X Y) := by
  refine con_start (cc := cX3_hasGoodValues) (maxL := 2) (ret := (some .boolean)) (by decide) rfl (Nat.le_of_ble_eq_true rfl) ?_
  intro κ hC hR
  have hC : Ok Λ { frames := 1, cells := 0, slots := 0, locals := 20 } cX3_hasGoodValues wsX3_hasGoodValues RX3 2 κ := hC
  refine v_args (lv' := [(0, rf Λ 200)]) rfl ?_
  refine v_iconst (v := 0) hC dX3_hasGoodValues_0 (by decide) ?_
  refine v_istore_n (lv' := [(1, .int 0), (0, rf Λ 200)]) hC dX3_hasGoodValues_1 (by decide) rfl ?_
  have L2 : ∀ (fu2 : Nat) (i : Nat) (x1 : Int32), i ≤ r → gvC (xb X) (xe X) (r - i) i = gvC (xb X) (xe X) r 0 → x1 = nI i → r - i < fu2 → V Λ κ (CC Λ X Y) 2 [(0, rf Λ 200), (1, .int x1)] [] := by
    intro fu2
    induction fu2 with
    | zero => intro i x1 hi hr e1 hfu2; exact absurd hfu2 (Nat.not_lt_zero _)
    | succ fu2 ih2 =>
      intro i x1 hi hr e1 hfu2
      subst e1
      refine v_iload_n hC dX3_hasGoodValues_2 1 rfl ?_
      refine v_aload_n hC dX3_hasGoodValues_3 0 rfl ?_
      refine v_get (T := TX3) (N := 5) (v := .int (xm X)) hC 200 (nR_of (by decide)) (cc_200 Λ X Y) in_X3_hasGoodValues_X3 rfl 4 (by decide) fl_X3_hasGoodValues_22 rfl dX3_hasGoodValues_4 ?_
      refine v_topi (y := nI r) hr0 ?_
      refine v_nge (a := i) (b := r) (tgt := 57) hC dX3_hasGoodValues_7 (by decide) rfl rfl (by omega) (by omega) (fun c7 => ?_) (fun c7 => ?_)
      · have c7' := Nat.not_lt.mpr c7
        refine v_iconst (v := 1) hC dX3_hasGoodValues_57 (by decide) ?_
        exact v_zret hC hR (congrArg (fun z : Int32 => some (Value.int z)) (by rw [← hr, show r - i = 0 by omega]; rfl)) rfl rfl dX3_hasGoodValues_58
      · have c7' := Nat.not_le.mpr c7
        refine v_aload_n hC dX3_hasGoodValues_10 0 rfl ?_
        refine v_get (T := TX3) (N := 5) (v := rf Λ 202) hC 200 (nR_of (by decide)) (cc_200 Λ X Y) in_X3_hasGoodValues_X3 rfl 1 (by decide) fl_X3_hasGoodValues_15 rfl dX3_hasGoodValues_11 ?_
        refine v_iload_n hC dX3_hasGoodValues_14 1 rfl ?_
        refine v_iald (n := 30) (f := (xb X)) hC 202 (nR_of (by decide)) (cc_202 Λ X Y) i rfl (by omega) (by decide) dX3_hasGoodValues_15 ?_
        refine v_callNr (v := .int (bI (inB ((xb X) i) 0 2047))) (C2 := CC Λ X Y) (As := [.int ((xb X) i)]) (rest := []) (host := "BoatSets") hC 1 (c_X4_isNumber Λ X Y (v := (xb X) i)) gX3_hasGoodValues_X4_isNumber_n33 rfl rfl rfl (by decide +kernel) wd_X3_hasGoodValues_iniX4_isNumber wd_X3_hasGoodValues_stX4_isNumber hd_X4_isNumber ⟨by decide, by decide⟩ rfl rfl (Nat.le_of_ble_eq_true rfl) dX3_hasGoodValues_16 ?_
        refine v_beq (b := inB ((xb X) i) 0 2047) (tgt := 49) hC dX3_hasGoodValues_19 (by decide) (fun c19 => ?_) (fun c19 => ?_)
        · skip
          refine v_iconst (v := 0) hC dX3_hasGoodValues_49 (by decide) ?_
          exact v_zret hC hR (congrArg (fun z : Int32 => some (Value.int z)) (by rw [← hr, show r - i = (r - (i + 1)) + 1 by omega, gvC, if_neg (by rintro ⟨h1, h2, h3⟩; rw [c19] at h1; exact absurd h1 (by decide))]; rfl)) rfl rfl dX3_hasGoodValues_50
        · skip
          refine v_aload_n hC dX3_hasGoodValues_22 0 rfl ?_
          refine v_get (T := TX3) (N := 5) (v := rf Λ 203) hC 200 (nR_of (by decide)) (cc_200 Λ X Y) in_X3_hasGoodValues_X3 rfl 2 (by decide) fl_X3_hasGoodValues_19 rfl dX3_hasGoodValues_23 ?_
          refine v_iload_n hC dX3_hasGoodValues_26 1 rfl ?_
          refine v_iald (n := 30) (f := (xe X)) hC 203 (nR_of (by decide)) (cc_203 Λ X Y) i rfl (by omega) (by decide) dX3_hasGoodValues_27 ?_
          refine v_callNr (v := .int (bI (inB ((xe X) i) 0 2047))) (C2 := CC Λ X Y) (As := [.int ((xe X) i)]) (rest := []) (host := "BoatSets") hC 1 (c_X4_isNumber Λ X Y (v := (xe X) i)) gX3_hasGoodValues_X4_isNumber_n33 rfl rfl rfl (by decide +kernel) wd_X3_hasGoodValues_iniX4_isNumber wd_X3_hasGoodValues_stX4_isNumber hd_X4_isNumber ⟨by decide, by decide⟩ rfl rfl (Nat.le_of_ble_eq_true rfl) dX3_hasGoodValues_28 ?_
          refine v_beq (b := inB ((xe X) i) 0 2047) (tgt := 49) hC dX3_hasGoodValues_31 (by decide) (fun c31 => ?_) (fun c31 => ?_)
          · skip
            refine v_iconst (v := 0) hC dX3_hasGoodValues_49 (by decide) ?_
            exact v_zret hC hR (congrArg (fun z : Int32 => some (Value.int z)) (by rw [← hr, show r - i = (r - (i + 1)) + 1 by omega, gvC, if_neg (by rintro ⟨h1, h2, h3⟩; rw [c31] at h2; exact absurd h2 (by decide))]; rfl)) rfl rfl dX3_hasGoodValues_50
          · skip
            refine v_aload_n hC dX3_hasGoodValues_34 0 rfl ?_
            refine v_get (T := TX3) (N := 5) (v := rf Λ 203) hC 200 (nR_of (by decide)) (cc_200 Λ X Y) in_X3_hasGoodValues_X3 rfl 2 (by decide) fl_X3_hasGoodValues_19 rfl dX3_hasGoodValues_35 ?_
            refine v_iload_n hC dX3_hasGoodValues_38 1 rfl ?_
            refine v_iald (n := 30) (f := (xe X)) hC 203 (nR_of (by decide)) (cc_203 Λ X Y) i rfl (by omega) (by decide) dX3_hasGoodValues_39 ?_
            refine v_aload_n hC dX3_hasGoodValues_40 0 rfl ?_
            refine v_get (T := TX3) (N := 5) (v := rf Λ 202) hC 200 (nR_of (by decide)) (cc_200 Λ X Y) in_X3_hasGoodValues_X3 rfl 1 (by decide) fl_X3_hasGoodValues_15 rfl dX3_hasGoodValues_41 ?_
            refine v_iload_n hC dX3_hasGoodValues_44 1 rfl ?_
            refine v_iald (n := 30) (f := (xb X)) hC 202 (nR_of (by decide)) (cc_202 Λ X Y) i rfl (by omega) (by decide) dX3_hasGoodValues_45 ?_
            refine v_icmp_ge (x := (xe X) i) (y := (xb X) i) (tgt := 51) hC dX3_hasGoodValues_46 (by decide) (fun c46 => ?_) (fun c46 => ?_)
            · have c46' := Int32.not_lt.mpr c46
              refine v_iinc (j := 1) (v := nI (i + 1)) (lv' := [(1, .int (nI (i + 1))), (0, rf Λ 200)]) hC dX3_hasGoodValues_51 rfl (nI_add i 1) (by decide) rfl ?_
              refine v_goto (tgt := 2) hC dX3_hasGoodValues_54 (by decide) ?_
              refine v_sub (lv' := [(0, rf Λ 200), (1, .int (nI (i + 1)))]) [1, 0] rfl ?_
              exact ih2 (i + 1) _ (by omega) (by rw [← hr, show r - i = (r - (i + 1)) + 1 by omega, gvC, if_pos ⟨c19, c31, c46⟩]) rfl (by omega)
            · have c46' := Int32.not_le.mp c46
              refine v_iconst (v := 0) hC dX3_hasGoodValues_49 (by decide) ?_
              exact v_zret hC hR (congrArg (fun z : Int32 => some (Value.int z)) (by rw [← hr, show r - i = (r - (i + 1)) + 1 by omega, gvC, if_neg (by rintro ⟨h1, h2, h3⟩; exact c46 h3)]; rfl)) rfl rfl dX3_hasGoodValues_50
  refine v_sub (lv' := [(0, rf Λ 200), (1, .int 0)]) [1, 0] rfl ?_
  exact L2 _ 0 _ (by omega) rfl rfl (Nat.lt_succ_self _)
theorem in_X3_noteRange_X3 : ∀ w ∈ wsX30, w ∈ wsX3_noteRange := by decide +kernel
theorem fl_X3_noteRange_22 : Cond.fieldLink RX3 22 "BoatSets$RangeText" "ranges" "I" ∈ wsX3_noteRange := by decide +kernel
theorem fl_X3_noteRange_15 : Cond.fieldLink RX3 15 "BoatSets$RangeText" "firsts" "[I" ∈ wsX3_noteRange := by decide +kernel
theorem fl_X3_noteRange_19 : Cond.fieldLink RX3 19 "BoatSets$RangeText" "lasts" "[I" ∈ wsX3_noteRange := by decide +kernel
theorem hd_X3_noteRange : yX3_noteRange.cls = RX3 ∧ yX3_noteRange.cls ≠ "java/lang/invoke/MethodHandle" ∧ yX3_noteRange.cls ≠ "java/lang/invoke/VarHandle" ∧ (parseMethodDescriptor yX3_noteRange.desc).map (fun d => d.parameters.length) = some 2 := by decide +kernel
set_option maxHeartbeats 400000 in
set_option maxRecDepth 100000 in
theorem c_X3_noteRange (Λ : Lk) (X : XS) (Y : YS) {u : Int32} {v : Int32} {r : Nat} (hr0 : xm X = nI r) (hr30 : r ≤ 30) : Con Λ yX3_noteRange wsX3_noteRange { frames := 0, cells := 0, slots := 0, locals := 0 } [rf Λ 200, .int u, .int v] (CC Λ X Y) none (CC Λ (ntX X r u v) Y) := by
  refine con_start (cc := cX3_noteRange) (maxL := 3) (ret := none) (by decide) rfl (Nat.le_of_ble_eq_true rfl) ?_
  intro κ hC hR
  have hC : Ok Λ { frames := 0, cells := 0, slots := 0, locals := 0 } cX3_noteRange wsX3_noteRange RX3 3 κ := hC
  refine v_args (lv' := [(0, rf Λ 200), (1, .int u), (2, .int v)]) rfl ?_
  refine v_aload_n hC dX3_noteRange_0 0 rfl ?_
  refine v_get (T := TX3) (N := 5) (v := .int (xm X)) hC 200 (nR_of (by decide)) (cc_200 Λ X Y) in_X3_noteRange_X3 rfl 4 (by decide) fl_X3_noteRange_22 rfl dX3_noteRange_1 ?_
  refine v_topi (y := nI r) hr0 ?_
  refine v_bipush (v := 30) hC dX3_noteRange_4 (by decide) ?_
  refine v_nge (a := r) (b := 30) (tgt := 39) hC dX3_noteRange_6 (by decide) rfl rfl (by omega) (by omega) (fun c6 => ?_) (fun c6 => ?_)
  · have c6' := Nat.not_lt.mpr c6
    exact v_vret hC hR rfl (mem_X (if_neg c6')) dX3_noteRange_39
  · have c6' := Nat.not_le.mpr c6
    refine v_aload_n hC dX3_noteRange_9 0 rfl ?_
    refine v_get (T := TX3) (N := 5) (v := rf Λ 202) hC 200 (nR_of (by decide)) (cc_200 Λ X Y) in_X3_noteRange_X3 rfl 1 (by decide) fl_X3_noteRange_15 rfl dX3_noteRange_10 ?_
    refine v_aload_n hC dX3_noteRange_13 0 rfl ?_
    refine v_get (T := TX3) (N := 5) (v := .int (xm X)) hC 200 (nR_of (by decide)) (cc_200 Λ X Y) in_X3_noteRange_X3 rfl 4 (by decide) fl_X3_noteRange_22 rfl dX3_noteRange_14 ?_
    refine v_topi (y := nI r) hr0 ?_
    refine v_iload_n hC dX3_noteRange_17 1 rfl ?_
    refine v_iast (n := 30) (f := (xb X)) hC 202 (nR_of (by decide)) (cc_202 Λ X Y) r rfl (by omega) (by decide) dX3_noteRange_18 ?_
    refine v_mem (cs_b Λ X Y (upd (xb X) r u)) ?_
    refine v_aload_n hC dX3_noteRange_19 0 rfl ?_
    refine v_get (T := TX3) (N := 5) (v := rf Λ 203) hC 200 (nR_of (by decide)) (cc_200 Λ (xbS X (upd (xb X) r u)) Y) in_X3_noteRange_X3 rfl 2 (by decide) fl_X3_noteRange_19 rfl dX3_noteRange_20 ?_
    refine v_aload_n hC dX3_noteRange_23 0 rfl ?_
    refine v_get (T := TX3) (N := 5) (v := .int (xm X)) hC 200 (nR_of (by decide)) (cc_200 Λ (xbS X (upd (xb X) r u)) Y) in_X3_noteRange_X3 rfl 4 (by decide) fl_X3_noteRange_22 rfl dX3_noteRange_24 ?_
    refine v_topi (y := nI r) hr0 ?_
    refine v_iload_n hC dX3_noteRange_27 2 rfl ?_
    refine v_iast (n := 30) (f := (xe X)) hC 203 (nR_of (by decide)) (cc_203 Λ (xbS X (upd (xb X) r u)) Y) r rfl (by omega) (by decide) dX3_noteRange_28 ?_
    refine v_mem (cs_e Λ (xbS X (upd (xb X) r u)) Y (upd (xe X) r v)) ?_
    refine v_aload_n hC dX3_noteRange_29 0 rfl ?_
    refine v_dup hC dX3_noteRange_30 rfl ?_
    refine v_get (T := TX3) (N := 5) (v := .int (xm X)) hC 200 (nR_of (by decide)) (cc_200 Λ (xeS (xbS X (upd (xb X) r u)) (upd (xe X) r v)) Y) in_X3_noteRange_X3 rfl 4 (by decide) fl_X3_noteRange_22 rfl dX3_noteRange_31 ?_
    refine v_topi (y := nI r) hr0 ?_
    refine v_iconst (v := 1) hC dX3_noteRange_34 (by decide) ?_
    refine v_iadd (x := nI r) (y := 1) hC dX3_noteRange_35 ?_
    refine v_topi (y := nI (r + 1)) (nI_add r 1) ?_
    refine v_put (T := TX3) (N := 5) (v := .int (nI (r + 1))) (ty := .int) hC 200 (nR_of (by decide)) (cc_200 Λ (xeS (xbS X (upd (xb X) r u)) (upd (xe X) r v)) Y) in_X3_noteRange_X3 tyX3 tyX3_ok nmX3 rfl 4 (by decide) fl_X3_noteRange_22 rfl (by decide +kernel) rfl rfl (Nat.le_of_ble_eq_true rfl) dX3_noteRange_36 ?_
    refine v_mem (cs_m Λ (xeS (xbS X (upd (xb X) r u)) (upd (xe X) r v)) Y (nI (r + 1))) ?_
    exact v_vret hC hR rfl (mem_X (if_pos c6)) dX3_noteRange_39
