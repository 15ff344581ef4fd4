theorem wd_X4_join_l217 : Cond.constantLong RX4 217 (-1) ∈ wsX4_join := by decide +kernel
theorem hd_X4_join : yX4_join.cls ≠ "java/lang/invoke/MethodHandle" ∧ yX4_join.cls ≠ "java/lang/invoke/VarHandle" ∧ (parseMethodDescriptor yX4_join.desc).map (fun d => d.parameters.length) = some 3 := by decide +kernel
set_option maxHeartbeats 400000 in
set_option maxRecDepth 100000 in
theorem c_X4_join (Λ : Lk) (X : XS) (Y : YS) {how : Int32} {x : Int64} {y : Int64} : Con Λ yX4_join wsX4_join { frames := 0, cells := 0, slots := 0, locals := 0 } [.int how, .long x, .long y] (CC Λ X Y) (some (.long (joC how x y))) (CC Λ X Y) := by
  refine con_start (cc := cX4_join) (maxL := 5) (ret := (some .long)) (by decide) rfl (Nat.le_of_ble_eq_true rfl) ?_
  intro κ hC hR
  have hC : Ok Λ { frames := 0, cells := 0, slots := 0, locals := 0 } cX4_join wsX4_join RX4 5 κ := hC
  refine v_args (lv' := [(0, .int how), (1, .long x), (3, .long y)]) rfl ?_
  refine v_iload_n hC dX4_join_0 0 rfl ?_
  by_cases c1_0 : how = 0
  · refine v_topi c1_0 ?_
    refine v_tabIn (x := 0) (tgt := 28) hC dX4_join_1 (by decide) (by decide) rfl (by decide) ?_
    refine v_lload_n hC dX4_join_28 1 rfl ?_
    refine v_lload_n hC dX4_join_29 2 rfl ?_
    refine v_lor hC dX4_join_30 ?_
    exact v_lret hC hR (congrArg (fun z : Int64 => some (Value.long z)) (by simp [joC, c1_0])) rfl dX4_join_31
  by_cases c1_1 : how = 1
  · refine v_topi c1_1 ?_
    refine v_tabIn (x := 1) (tgt := 32) hC dX4_join_1 (by decide) (by decide) rfl (by decide) ?_
    refine v_lload_n hC dX4_join_32 1 rfl ?_
    refine v_lload_n hC dX4_join_33 2 rfl ?_
    refine v_land hC dX4_join_34 ?_
    exact v_lret hC hR (congrArg (fun z : Int64 => some (Value.long z)) (by simp [joC, c1_1])) rfl dX4_join_35
  by_cases c1_2 : how = 2
  · refine v_topi c1_2 ?_
    refine v_tabIn (x := 2) (tgt := 36) hC dX4_join_1 (by decide) (by decide) rfl (by decide) ?_
    refine v_lload_n hC dX4_join_36 1 rfl ?_
    refine v_lload_n hC dX4_join_37 2 rfl ?_
    refine v_ldc2 (v := -1) hC dX4_join_38 wd_X4_join_l217 ?_
    refine v_lxor hC dX4_join_41 ?_
    refine v_land hC dX4_join_42 ?_
    exact v_lret hC hR (congrArg (fun z : Int64 => some (Value.long z)) (by simp [joC, c1_2])) rfl dX4_join_43
  refine v_tabOut (tgt := 44) hC dX4_join_1 (by have q0 := i32_ne (n := 0) c1_0 (by decide); have q1 := i32_ne (n := 1) c1_1 (by decide); have q2 := i32_ne (n := 2) c1_2 (by decide); omega) (by decide) ?_
  refine v_lload_n hC dX4_join_44 1 rfl ?_
  refine v_lload_n hC dX4_join_45 2 rfl ?_
  refine v_lxor hC dX4_join_46 ?_
  exact v_lret hC hR (congrArg (fun z : Int64 => some (Value.long z)) (by simp [joC, c1_0, c1_1, c1_2])) rfl dX4_join_47
theorem in_X0_clearNumbers_X0 : ∀ w ∈ wsX00, w ∈ wsX0_clearNumbers := by decide +kernel
theorem fl_X0_clearNumbers_9 : Cond.fieldLink RX0 9 "BoatSets$Fleet" "words" "[J" ∈ wsX0_clearNumbers := by decide +kernel
theorem fl_X0_clearNumbers_15 : Cond.fieldLink RX0 15 "BoatSets$Fleet" "kinds" "[I" ∈ wsX0_clearNumbers := by decide +kernel
theorem fl_X0_clearNumbers_19 : Cond.fieldLink RX0 19 "BoatSets$Fleet" "sizes" "[I" ∈ wsX0_clearNumbers := by decide +kernel
theorem fl_X0_clearNumbers_22 : Cond.fieldLink RX0 22 "BoatSets$Fleet" "runs" "[I" ∈ wsX0_clearNumbers := by decide +kernel
theorem hd_X0_clearNumbers : yX0_clearNumbers.cls = RX0 ∧ yX0_clearNumbers.cls ≠ "java/lang/invoke/MethodHandle" ∧ yX0_clearNumbers.cls ≠ "java/lang/invoke/VarHandle" ∧ (parseMethodDescriptor yX0_clearNumbers.desc).map (fun d => d.parameters.length) = some 0 := by decide +kernel
set_option maxHeartbeats 400000 in
set_option maxRecDepth 100000 in
theorem c_X0_clearNumbers (Λ : Lk) (X : XS) (Y : YS) {i : Nat} {f : FR} (hi : i < 37) (hf : X.1 i = f) : Con Λ yX0_clearNumbers wsX0_clearNumbers { frames := 1, cells := 0, slots := 0, locals := 24 } [rf Λ (5 * i)] (CC Λ X Y) none (CC Λ (xFi X i (fillF f)) Y) := by
  refine con_start (cc := cX0_clearNumbers) (maxL := 1) (ret := none) (by decide) rfl (Nat.le_of_ble_eq_true rfl) ?_
  intro κ hC hR
  have hC : Ok Λ { frames := 1, cells := 0, slots := 0, locals := 24 } cX0_clearNumbers wsX0_clearNumbers RX0 1 κ := hC
  refine v_args (lv' := [(0, rf Λ (5 * i))]) rfl ?_
  refine v_mem (congrArg (fun Z => CC Λ Z Y) (xFi_self hf)) ?_
  refine v_aload_n hC dX0_clearNumbers_0 0 rfl ?_
  refine v_get (T := TX0) (N := 7) (v := rf Λ (5 * i + 1)) hC (5 * i) (rb_f0 hi) (cc_f0 Λ Y hi (xFi_at X i f)) in_X0_clearNumbers_X0 rfl 0 (by decide) fl_X0_clearNumbers_9 rfl dX0_clearNumbers_1 ?_
  refine v_lconst (v := 0) hC dX0_clearNumbers_4 (by decide) ?_
  refine v_callSv (As := [rf Λ (5 * i + 1), .long 0]) (rest := []) hC 2 (c_J7_fill_d0a16 Λ (CC Λ (xFi X i f) Y) 0 (cc_f1 Λ Y hi (xFi_at X i f)) (rb_f hi (by decide)) (by decide)) gX0_clearNumbers_J7_fill_d0a16 rfl rfl rfl hd_J7_fill_d0a16 ⟨by decide, by decide⟩ rfl rfl (Nat.le_of_ble_eq_true rfl) dX0_clearNumbers_5 ?_
  refine v_mem (cs_fw Λ X Y f (filK 0 (fw f) 32) hi) ?_
  refine v_aload_n hC dX0_clearNumbers_8 0 rfl ?_
  refine v_get (T := TX0) (N := 7) (v := rf Λ (5 * i + 2)) hC (5 * i) (rb_f0 hi) (cc_f0 Λ Y hi (xFi_at X i (fwS f (filK 0 (fw f) 32)))) in_X0_clearNumbers_X0 rfl 1 (by decide) fl_X0_clearNumbers_15 rfl dX0_clearNumbers_9 ?_
  refine v_iconst (v := 0) hC dX0_clearNumbers_12 (by decide) ?_
  refine v_callSv (As := [rf Λ (5 * i + 2), .int 0]) (rest := []) hC 2 (c_J7_fill_53178 Λ (CC Λ (xFi X i (fwS f (filK 0 (fw f) 32))) Y) 0 (cc_f2 Λ Y hi (xFi_at X i (fwS f (filK 0 (fw f) 32)))) (rb_f hi (by decide)) (by decide)) gX0_clearNumbers_J7_fill_53178 rfl rfl rfl hd_J7_fill_53178 ⟨by decide, by decide⟩ rfl rfl (Nat.le_of_ble_eq_true rfl) dX0_clearNumbers_13 ?_
  refine v_mem (cs_fk Λ X Y (fwS f (filK 0 (fw f) 32)) (filK 0 (fk (fwS f (filK 0 (fw f) 32))) 8) hi) ?_
  refine v_aload_n hC dX0_clearNumbers_16 0 rfl ?_
  refine v_get (T := TX0) (N := 7) (v := rf Λ (5 * i + 3)) hC (5 * i) (rb_f0 hi) (cc_f0 Λ Y hi (xFi_at X i (fkS (fwS f (filK 0 (fw f) 32)) (filK 0 (fk (fwS f (filK 0 (fw f) 32))) 8)))) in_X0_clearNumbers_X0 rfl 2 (by decide) fl_X0_clearNumbers_19 rfl dX0_clearNumbers_17 ?_
  refine v_iconst (v := 0) hC dX0_clearNumbers_20 (by decide) ?_
  refine v_callSv (As := [rf Λ (5 * i + 3), .int 0]) (rest := []) hC 2 (c_J7_fill_53178 Λ (CC Λ (xFi X i (fkS (fwS f (filK 0 (fw f) 32)) (filK 0 (fk (fwS f (filK 0 (fw f) 32))) 8))) Y) 0 (cc_f3 Λ Y hi (xFi_at X i (fkS (fwS f (filK 0 (fw f) 32)) (filK 0 (fk (fwS f (filK 0 (fw f) 32))) 8)))) (rb_f hi (by decide)) (by decide)) gX0_clearNumbers_J7_fill_53178 rfl rfl rfl hd_J7_fill_53178 ⟨by decide, by decide⟩ rfl rfl (Nat.le_of_ble_eq_true rfl) dX0_clearNumbers_21 ?_
  refine v_mem (cs_fs Λ X Y (fkS (fwS f (filK 0 (fw f) 32)) (filK 0 (fk (fwS f (filK 0 (fw f) 32))) 8)) (filK 0 (fs (fkS (fwS f (filK 0 (fw f) 32)) (filK 0 (fk (fwS f (filK 0 (fw f) 32))) 8))) 8) hi) ?_
  refine v_aload_n hC dX0_clearNumbers_24 0 rfl ?_
  refine v_get (T := TX0) (N := 7) (v := rf Λ (5 * i + 4)) hC (5 * i) (rb_f0 hi) (cc_f0 Λ Y hi (xFi_at X i (fsS (fkS (fwS f (filK 0 (fw f) 32)) (filK 0 (fk (fwS f (filK 0 (fw f) 32))) 8)) (filK 0 (fs (fkS (fwS f (filK 0 (fw f) 32)) (filK 0 (fk (fwS f (filK 0 (fw f) 32))) 8))) 8)))) in_X0_clearNumbers_X0 rfl 3 (by decide) fl_X0_clearNumbers_22 rfl dX0_clearNumbers_25 ?_
  refine v_iconst (v := 0) hC dX0_clearNumbers_28 (by decide) ?_
  refine v_callSv (As := [rf Λ (5 * i + 4), .int 0]) (rest := []) hC 2 (c_J7_fill_53178 Λ (CC Λ (xFi X i (fsS (fkS (fwS f (filK 0 (fw f) 32)) (filK 0 (fk (fwS f (filK 0 (fw f) 32))) 8)) (filK 0 (fs (fkS (fwS f (filK 0 (fw f) 32)) (filK 0 (fk (fwS f (filK 0 (fw f) 32))) 8))) 8))) Y) 0 (cc_f4 Λ Y hi (xFi_at X i (fsS (fkS (fwS f (filK 0 (fw f) 32)) (filK 0 (fk (fwS f (filK 0 (fw f) 32))) 8)) (filK 0 (fs (fkS (fwS f (filK 0 (fw f) 32)) (filK 0 (fk (fwS f (filK 0 (fw f) 32))) 8))) 8)))) (rb_f hi (by decide)) (by decide)) gX0_clearNumbers_J7_fill_53178 rfl rfl rfl hd_J7_fill_53178 ⟨by decide, by decide⟩ rfl rfl (Nat.le_of_ble_eq_true rfl) dX0_clearNumbers_29 ?_
  refine v_mem (cs_fr Λ X Y (fsS (fkS (fwS f (filK 0 (fw f) 32)) (filK 0 (fk (fwS f (filK 0 (fw f) 32))) 8)) (filK 0 (fs (fkS (fwS f (filK 0 (fw f) 32)) (filK 0 (fk (fwS f (filK 0 (fw f) 32))) 8))) 8)) (filK 0 (fr (fsS (fkS (fwS f (filK 0 (fw f) 32)) (filK 0 (fk (fwS f (filK 0 (fw f) 32))) 8)) (filK 0 (fs (fkS (fwS f (filK 0 (fw f) 32)) (filK 0 (fk (fwS f (filK 0 (fw f) 32))) 8))) 8))) 8) hi) ?_
  exact v_vret hC hR rfl rfl dX0_clearNumbers_32
theorem in_X0_begin_X0 : ∀ w ∈ wsX00, w ∈ wsX0_begin := by decide +kernel
theorem fl_X0_begin_28 : Cond.fieldLink RX0 28 "BoatSets$Fleet" "purse" "I" ∈ wsX0_begin := by decide +kernel
theorem fl_X0_begin_32 : Cond.fieldLink RX0 32 "BoatSets$Fleet" "paid" "I" ∈ wsX0_begin := by decide +kernel
theorem fl_X0_begin_35 : Cond.fieldLink RX0 35 "BoatSets$Fleet" "atSea" "Z" ∈ wsX0_begin := by decide +kernel
theorem hd_X0_begin : yX0_begin.cls = RX0 ∧ yX0_begin.cls ≠ "java/lang/invoke/MethodHandle" ∧ yX0_begin.cls ≠ "java/lang/invoke/VarHandle" ∧ (parseMethodDescriptor yX0_begin.desc).map (fun d => d.parameters.length) = some 1 := by decide +kernel
set_option maxHeartbeats 400000 in
set_option maxRecDepth 100000 in
theorem c_X0_begin (Λ : Lk) (X : XS) (Y : YS) {i : Nat} {f : FR} (hi : i < 37) (hf : X.1 i = f) {c : Int32} : Con Λ yX0_begin wsX0_begin { frames := 2, cells := 0, slots := 0, locals := 44 } [rf Λ (5 * i), .int c] (CC Λ X Y) none (CC Λ (xFi X i (bgF f c)) Y) := by
  refine con_start (cc := cX0_begin) (maxL := 2) (ret := none) (by decide) rfl (Nat.le_of_ble_eq_true rfl) ?_
  intro κ hC hR
  have hC : Ok Λ { frames := 2, cells := 0, slots := 0, locals := 44 } cX0_begin wsX0_begin RX0 2 κ := hC
  refine v_args (lv' := [(0, rf Λ (5 * i)), (1, .int c)]) rfl ?_
  refine v_mem (congrArg (fun Z => CC Λ Z Y) (xFi_self hf)) ?_
  refine v_aload_n hC dX0_begin_0 0 rfl ?_
  refine v_callVv (C2 := CC Λ (xFi (xFi X i f) i (fillF f)) Y) (As := []) (rest := []) hC 0 (5 * i) (c_X0_clearNumbers Λ (xFi X i f) Y (i := i) (f := f) hi (xFi_at X i f)) (rb_f0 hi) (cc_f0 Λ Y hi (xFi_at X i f)) rfl gX0_begin_X0_clearNumbers rfl rfl rfl hd_X0_clearNumbers ⟨by decide, by decide⟩ rfl rfl (Nat.le_of_ble_eq_true rfl) dX0_begin_1 ?_
  refine v_mem (mem_X (xFi_2 X i f (fillF f))) ?_
  refine v_aload_n hC dX0_begin_4 0 rfl ?_
  refine v_iload_n hC dX0_begin_5 1 rfl ?_
  refine v_put (T := TX0) (N := 7) (v := .int c) (ty := .int) hC (5 * i) (rb_f0 hi) (cc_f0 Λ Y hi (xFi_at X i (fillF f))) in_X0_begin_X0 tyX0 tyX0_ok nmX0 rfl 4 (by decide) fl_X0_begin_28 rfl (by decide +kernel) rfl rfl (Nat.le_of_ble_eq_true rfl) dX0_begin_6 ?_
  refine v_mem (cs_fp Λ X Y (fillF f) c hi) ?_
  refine v_aload_n hC dX0_begin_9 0 rfl ?_
  refine v_iconst (v := 0) hC dX0_begin_10 (by decide) ?_
  refine v_put (T := TX0) (N := 7) (v := .int 0) (ty := .int) hC (5 * i) (rb_f0 hi) (cc_f0 Λ Y hi (xFi_at X i (fpS (fillF f) c))) in_X0_begin_X0 tyX0 tyX0_ok nmX0 rfl 5 (by decide) fl_X0_begin_32 rfl (by decide +kernel) rfl rfl (Nat.le_of_ble_eq_true rfl) dX0_begin_11 ?_
  refine v_mem (cs_fd Λ X Y (fpS (fillF f) c) 0 hi) ?_
  refine v_aload_n hC dX0_begin_14 0 rfl ?_
  refine v_iconst (v := 0) hC dX0_begin_15 (by decide) ?_
  refine v_put (T := TX0) (N := 7) (v := .int 0) (ty := .boolean) hC (5 * i) (rb_f0 hi) (cc_f0 Λ Y hi (xFi_at X i (fdS (fpS (fillF f) c) 0))) in_X0_begin_X0 tyX0 tyX0_ok nmX0 rfl 6 (by decide) fl_X0_begin_35 rfl (by decide +kernel) (by first | rfl | exact nar_b _) rfl (Nat.le_of_ble_eq_true rfl) dX0_begin_16 ?_
  refine v_mem (cs_fa Λ X Y (fdS (fpS (fillF f) c) 0) false hi) ?_
  exact v_vret hC hR rfl rfl dX0_begin_19
theorem in_X0_copyFrom_X0 : ∀ w ∈ wsX00, w ∈ wsX0_copyFrom := by decide +kernel
theorem fl_X0_copyFrom_9 : Cond.fieldLink RX0 9 "BoatSets$Fleet" "words" "[J" ∈ wsX0_copyFrom := by decide +kernel
theorem wd_X0_copyFrom_ml48 : Cond.methodLink RX0 48 arraycopyName ∈ wsX0_copyFrom := by decide +kernel
theorem wd_X0_copyFrom_acn : Cond.native arraycopyName ∈ wsX0_copyFrom := by decide +kernel
theorem wd_X0_copyFrom_acs : Cond.static arraycopyName ∈ wsX0_copyFrom := by decide +kernel
theorem wd_X0_copyFrom_aci : Cond.initialized "java/lang/System" ∈ wsX0_copyFrom := by decide +kernel
theorem fl_X0_copyFrom_15 : Cond.fieldLink RX0 15 "BoatSets$Fleet" "kinds" "[I" ∈ wsX0_copyFrom := by decide +kernel
theorem fl_X0_copyFrom_19 : Cond.fieldLink RX0 19 "BoatSets$Fleet" "sizes" "[I" ∈ wsX0_copyFrom := by decide +kernel
theorem fl_X0_copyFrom_22 : Cond.fieldLink RX0 22 "BoatSets$Fleet" "runs" "[I" ∈ wsX0_copyFrom := by decide +kernel
theorem fl_X0_copyFrom_28 : Cond.fieldLink RX0 28 "BoatSets$Fleet" "purse" "I" ∈ wsX0_copyFrom := by decide +kernel
theorem fl_X0_copyFrom_32 : Cond.fieldLink RX0 32 "BoatSets$Fleet" "paid" "I" ∈ wsX0_copyFrom := by decide +kernel
theorem fl_X0_copyFrom_35 : Cond.fieldLink RX0 35 "BoatSets$Fleet" "atSea" "Z" ∈ wsX0_copyFrom := by decide +kernel
theorem hd_X0_copyFrom : yX0_copyFrom.cls = RX0 ∧ yX0_copyFrom.cls ≠ "java/lang/invoke/MethodHandle" ∧ yX0_copyFrom.cls ≠ "java/lang/invoke/VarHandle" ∧ (parseMethodDescriptor yX0_copyFrom.desc).map (fun d => d.parameters.length) = some 1 := by decide +kernel
set_option maxHeartbeats 400000 in
set_option maxRecDepth 100000 in
theorem c_X0_copyFrom (Λ : Lk) (X : XS) (Y : YS) {i : Nat} {f : FR} (hi : i < 37) (hf : X.1 i = f) {io : Nat} {fo : FR} (hio : io < 37) (hfo : X.1 io = fo) (hneo : io ≠ i) : Con Λ yX0_copyFrom wsX0_copyFrom { frames := 1, cells := 0, slots := 0, locals := 40 } [rf Λ (5 * i), rf Λ (5 * io)] (CC Λ X Y) none (CC Λ (xFi X i (cpF fo f)) Y) := by
  refine con_start (cc := cX0_copyFrom) (maxL := 2) (ret := none) (by decide) rfl (Nat.le_of_ble_eq_true rfl) ?_
  intro κ hC hR
  have hC : Ok Λ { frames := 1, cells := 0, slots := 0, locals := 40 } cX0_copyFrom wsX0_copyFrom RX0 2 κ := hC
  refine v_args (lv' := [(0, rf Λ (5 * i)), (1, rf Λ (5 * io))]) rfl ?_
  refine v_mem (congrArg (fun Z => CC Λ Z Y) (xFi_self hf)) ?_
  refine v_aload_n hC dX0_copyFrom_0 1 rfl ?_
  refine v_get (T := TX0) (N := 7) (v := rf Λ (5 * io + 1)) hC (5 * io) (rb_f0 hio) (cc_f0 Λ Y hio ((xFi_ne X f hneo).trans hfo)) in_X0_copyFrom_X0 rfl 0 (by decide) fl_X0_copyFrom_9 rfl dX0_copyFrom_1 ?_
  refine v_iconst (v := 0) hC dX0_copyFrom_4 (by decide) ?_
  refine v_aload_n hC dX0_copyFrom_5 0 rfl ?_
  refine v_get (T := TX0) (N := 7) (v := rf Λ (5 * i + 1)) hC (5 * i) (rb_f0 hi) (cc_f0 Λ Y hi (xFi_at X i f)) in_X0_copyFrom_X0 rfl 0 (by decide) fl_X0_copyFrom_9 rfl dX0_copyFrom_6 ?_
  refine v_iconst (v := 0) hC dX0_copyFrom_9 (by decide) ?_
  refine v_bipush (v := 32) hC dX0_copyFrom_10 (by decide) ?_
  refine v_copyl hC (5 * io + 1) (5 * i + 1) (rb_f hio (by decide)) (rb_f hi (by decide)) (cc_f1 Λ Y hio ((xFi_ne X f hneo).trans hfo)) (cc_f1 Λ Y hi (xFi_at X i f)) wd_X0_copyFrom_ml48 wd_X0_copyFrom_acn wd_X0_copyFrom_acs wd_X0_copyFrom_aci 32 rfl (by decide) (by decide) (by decide) (by decide) (by decide) dX0_copyFrom_12 ?_
  refine v_mem (cs_fw Λ X Y f (va_cpy (fw fo) (fw f) 0 0 32) hi) ?_
  refine v_aload_n hC dX0_copyFrom_15 1 rfl ?_
  refine v_get (T := TX0) (N := 7) (v := rf Λ (5 * io + 2)) hC (5 * io) (rb_f0 hio) (cc_f0 Λ Y hio ((xFi_ne X (fwS f (va_cpy (fw fo) (fw f) 0 0 32)) hneo).trans hfo)) in_X0_copyFrom_X0 rfl 1 (by decide) fl_X0_copyFrom_15 rfl dX0_copyFrom_16 ?_
  refine v_iconst (v := 0) hC dX0_copyFrom_19 (by decide) ?_
  refine v_aload_n hC dX0_copyFrom_20 0 rfl ?_
  refine v_get (T := TX0) (N := 7) (v := rf Λ (5 * i + 2)) hC (5 * i) (rb_f0 hi) (cc_f0 Λ Y hi (xFi_at X i (fwS f (va_cpy (fw fo) (fw f) 0 0 32)))) in_X0_copyFrom_X0 rfl 1 (by decide) fl_X0_copyFrom_15 rfl dX0_copyFrom_21 ?_
  refine v_iconst (v := 0) hC dX0_copyFrom_24 (by decide) ?_
  refine v_bipush (v := 8) hC dX0_copyFrom_25 (by decide) ?_
  refine v_copyi hC (5 * io + 2) (5 * i + 2) (rb_f hio (by decide)) (rb_f hi (by decide)) (cc_f2 Λ Y hio ((xFi_ne X (fwS f (va_cpy (fw fo) (fw f) 0 0 32)) hneo).trans hfo)) (cc_f2 Λ Y hi (xFi_at X i (fwS f (va_cpy (fw fo) (fw f) 0 0 32)))) wd_X0_copyFrom_ml48 wd_X0_copyFrom_acn wd_X0_copyFrom_acs wd_X0_copyFrom_aci 8 rfl (by decide) (by decide) (by decide) (by decide) (by decide) dX0_copyFrom_27 ?_
  refine v_mem (cs_fk Λ X Y (fwS f (va_cpy (fw fo) (fw f) 0 0 32)) (va_cpy (fk fo) (fk (fwS f (va_cpy (fw fo) (fw f) 0 0 32))) 0 0 8) hi) ?_
  refine v_aload_n hC dX0_copyFrom_30 1 rfl ?_
  refine v_get (T := TX0) (N := 7) (v := rf Λ (5 * io + 3)) hC (5 * io) (rb_f0 hio) (cc_f0 Λ Y hio ((xFi_ne X (fkS (fwS f (va_cpy (fw fo) (fw f) 0 0 32)) (va_cpy (fk fo) (fk (fwS f (va_cpy (fw fo) (fw f) 0 0 32))) 0 0 8)) hneo).trans hfo)) in_X0_copyFrom_X0 rfl 2 (by decide) fl_X0_copyFrom_19 rfl dX0_copyFrom_31 ?_
  refine v_iconst (v := 0) hC dX0_copyFrom_34 (by decide) ?_
  refine v_aload_n hC dX0_copyFrom_35 0 rfl ?_
  refine v_get (T := TX0) (N := 7) (v := rf Λ (5 * i + 3)) hC (5 * i) (rb_f0 hi) (cc_f0 Λ Y hi (xFi_at X i (fkS (fwS f (va_cpy (fw fo) (fw f) 0 0 32)) (va_cpy (fk fo) (fk (fwS f (va_cpy (fw fo) (fw f) 0 0 32))) 0 0 8)))) in_X0_copyFrom_X0 rfl 2 (by decide) fl_X0_copyFrom_19 rfl dX0_copyFrom_36 ?_
  refine v_iconst (v := 0) hC dX0_copyFrom_39 (by decide) ?_
  refine v_bipush (v := 8) hC dX0_copyFrom_40 (by decide) ?_
  refine v_copyi hC (5 * io + 3) (5 * i + 3) (rb_f hio (by decide)) (rb_f hi (by decide)) (cc_f3 Λ Y hio ((xFi_ne X (fkS (fwS f (va_cpy (fw fo) (fw f) 0 0 32)) (va_cpy (fk fo) (fk (fwS f (va_cpy (fw fo) (fw f) 0 0 32))) 0 0 8)) hneo).trans hfo)) (cc_f3 Λ Y hi (xFi_at X i (fkS (fwS f (va_cpy (fw fo) (fw f) 0 0 32)) (va_cpy (fk fo) (fk (fwS f (va_cpy (fw fo) (fw f) 0 0 32))) 0 0 8)))) wd_X0_copyFrom_ml48 wd_X0_copyFrom_acn wd_X0_copyFrom_acs wd_X0_copyFrom_aci 8 rfl (by decide) (by decide) (by decide) (by decide) (by decide) dX0_copyFrom_42 ?_
  refine v_mem (cs_fs Λ X Y (fkS (fwS f (va_cpy (fw fo) (fw f) 0 0 32)) (va_cpy (fk fo) (fk (fwS f (va_cpy (fw fo) (fw f) 0 0 32))) 0 0 8)) (va_cpy (fs fo) (fs (fkS (fwS f (va_cpy (fw fo) (fw f) 0 0 32)) (va_cpy (fk fo) (fk (fwS f (va_cpy (fw fo) (fw f) 0 0 32))) 0 0 8))) 0 0 8) hi) ?_
  refine v_aload_n hC dX0_copyFrom_45 1 rfl ?_
  refine v_get (T := TX0) (N := 7) (v := rf Λ (5 * io + 4)) hC (5 * io) (rb_f0 hio) (cc_f0 Λ Y hio ((xFi_ne X (fsS (fkS (fwS f (va_cpy (fw fo) (fw f) 0 0 32)) (va_cpy (fk fo) (fk (fwS f (va_cpy (fw fo) (fw f) 0 0 32))) 0 0 8)) (va_cpy (fs fo) (fs (fkS (fwS f (va_cpy (fw fo) (fw f) 0 0 32)) (va_cpy (fk fo) (fk (fwS f (va_cpy (fw fo) (fw f) 0 0 32))) 0 0 8))) 0 0 8)) hneo).trans hfo)) in_X0_copyFrom_X0 rfl 3 (by decide) fl_X0_copyFrom_22 rfl dX0_copyFrom_46 ?_
  refine v_iconst (v := 0) hC dX0_copyFrom_49 (by decide) ?_
  refine v_aload_n hC dX0_copyFrom_50 0 rfl ?_
  refine v_get (T := TX0) (N := 7) (v := rf Λ (5 * i + 4)) hC (5 * i) (rb_f0 hi) (cc_f0 Λ Y hi (xFi_at X i (fsS (fkS (fwS f (va_cpy (fw fo) (fw f) 0 0 32)) (va_cpy (fk fo) (fk (fwS f (va_cpy (fw fo) (fw f) 0 0 32))) 0 0 8)) (va_cpy (fs fo) (fs (fkS (fwS f (va_cpy (fw fo) (fw f) 0 0 32)) (va_cpy (fk fo) (fk (fwS f (va_cpy (fw fo) (fw f) 0 0 32))) 0 0 8))) 0 0 8)))) in_X0_copyFrom_X0 rfl 3 (by decide) fl_X0_copyFrom_22 rfl dX0_copyFrom_51 ?_
  refine v_iconst (v := 0) hC dX0_copyFrom_54 (by decide) ?_
  refine v_bipush (v := 8) hC dX0_copyFrom_55 (by decide) ?_
  refine v_copyi hC (5 * io + 4) (5 * i + 4) (rb_f hio (by decide)) (rb_f hi (by decide)) (cc_f4 Λ Y hio ((xFi_ne X (fsS (fkS (fwS f (va_cpy (fw fo) (fw f) 0 0 32)) (va_cpy (fk fo) (fk (fwS f (va_cpy (fw fo) (fw f) 0 0 32))) 0 0 8)) (va_cpy (fs fo) (fs (fkS (fwS f (va_cpy (fw fo) (fw f) 0 0 32)) (va_cpy (fk fo) (fk (fwS f (va_cpy (fw fo) (fw f) 0 0 32))) 0 0 8))) 0 0 8)) hneo).trans hfo)) (cc_f4 Λ Y hi (xFi_at X i (fsS (fkS (fwS f (va_cpy (fw fo) (fw f) 0 0 32)) (va_cpy (fk fo) (fk (fwS f (va_cpy (fw fo) (fw f) 0 0 32))) 0 0 8)) (va_cpy (fs fo) (fs (fkS (fwS f (va_cpy (fw fo) (fw f) 0 0 32)) (va_cpy (fk fo) (fk (fwS f (va_cpy (fw fo) (fw f) 0 0 32))) 0 0 8))) 0 0 8)))) wd_X0_copyFrom_ml48 wd_X0_copyFrom_acn wd_X0_copyFrom_acs wd_X0_copyFrom_aci 8 rfl (by decide) (by decide) (by decide) (by decide) (by decide) dX0_copyFrom_57 ?_
  refine v_mem (cs_fr Λ X Y (fsS (fkS (fwS f (va_cpy (fw fo) (fw f) 0 0 32)) (va_cpy (fk fo) (fk (fwS f (va_cpy (fw fo) (fw f) 0 0 32))) 0 0 8)) (va_cpy (fs fo) (fs (fkS (fwS f (va_cpy (fw fo) (fw f) 0 0 32)) (va_cpy (fk fo) (fk (fwS f (va_cpy (fw fo) (fw f) 0 0 32))) 0 0 8))) 0 0 8)) (va_cpy (fr fo) (fr (fsS (fkS (fwS f (va_cpy (fw fo) (fw f) 0 0 32)) (va_cpy (fk fo) (fk (fwS f (va_cpy (fw fo) (fw f) 0 0 32))) 0 0 8)) (va_cpy (fs fo) (fs (fkS (fwS f (va_cpy (fw fo) (fw f) 0 0 32)) (va_cpy (fk fo) (fk (fwS f (va_cpy (fw fo) (fw f) 0 0 32))) 0 0 8))) 0 0 8))) 0 0 8) hi) ?_
  refine v_aload_n hC dX0_copyFrom_60 0 rfl ?_
  refine v_aload_n hC dX0_copyFrom_61 1 rfl ?_
  refine v_get (T := TX0) (N := 7) (v := .int (fp fo)) hC (5 * io) (rb_f0 hio) (cc_f0 Λ Y hio ((xFi_ne X (frS (fsS (fkS (fwS f (va_cpy (fw fo) (fw f) 0 0 32)) (va_cpy (fk fo) (fk (fwS f (va_cpy (fw fo) (fw f) 0 0 32))) 0 0 8)) (va_cpy (fs fo) (fs (fkS (fwS f (va_cpy (fw fo) (fw f) 0 0 32)) (va_cpy (fk fo) (fk (fwS f (va_cpy (fw fo) (fw f) 0 0 32))) 0 0 8))) 0 0 8)) (va_cpy (fr fo) (fr (fsS (fkS (fwS f (va_cpy (fw fo) (fw f) 0 0 32)) (va_cpy (fk fo) (fk (fwS f (va_cpy (fw fo) (fw f) 0 0 32))) 0 0 8)) (va_cpy (fs fo) (fs (fkS (fwS f (va_cpy (fw fo) (fw f) 0 0 32)) (va_cpy (fk fo) (fk (fwS f (va_cpy (fw fo) (fw f) 0 0 32))) 0 0 8))) 0 0 8))) 0 0 8)) hneo).trans hfo)) in_X0_copyFrom_X0 rfl 4 (by decide) fl_X0_copyFrom_28 rfl dX0_copyFrom_62 ?_
  refine v_put (T := TX0) (N := 7) (v := .int (fp fo)) (ty := .int) hC (5 * i) (rb_f0 hi) (cc_f0 Λ Y hi (xFi_at X i (frS (fsS (fkS (fwS f (va_cpy (fw fo) (fw f) 0 0 32)) (va_cpy (fk fo) (fk (fwS f (va_cpy (fw fo) (fw f) 0 0 32))) 0 0 8)) (va_cpy (fs fo) (fs (fkS (fwS f (va_cpy (fw fo) (fw f) 0 0 32)) (va_cpy (fk fo) (fk (fwS f (va_cpy (fw fo) (fw f) 0 0 32))) 0 0 8))) 0 0 8)) (va_cpy (fr fo) (fr (fsS (fkS (fwS f (va_cpy (fw fo) (fw f) 0 0 32)) (va_cpy (fk fo) (fk (fwS f (va_cpy (fw fo) (fw f) 0 0 32))) 0 0 8)) (va_cpy (fs fo) (fs (fkS (fwS f (va_cpy (fw fo) (fw f) 0 0 32)) (va_cpy (fk fo) (fk (fwS f (va_cpy (fw fo) (fw f) 0 0 32))) 0 0 8))) 0 0 8))) 0 0 8)))) in_X0_copyFrom_X0 tyX0 tyX0_ok nmX0 rfl 4 (by decide) fl_X0_copyFrom_28 rfl (by decide +kernel) rfl rfl (Nat.le_of_ble_eq_true rfl) dX0_copyFrom_65 ?_
  refine v_mem (cs_fp Λ X Y (frS (fsS (fkS (fwS f (va_cpy (fw fo) (fw f) 0 0 32)) (va_cpy (fk fo) (fk (fwS f (va_cpy (fw fo) (fw f) 0 0 32))) 0 0 8)) (va_cpy (fs fo) (fs (fkS (fwS f (va_cpy (fw fo) (fw f) 0 0 32)) (va_cpy (fk fo) (fk (fwS f (va_cpy (fw fo) (fw f) 0 0 32))) 0 0 8))) 0 0 8)) (va_cpy (fr fo) (fr (fsS (fkS (fwS f (va_cpy (fw fo) (fw f) 0 0 32)) (va_cpy (fk fo) (fk (fwS f (va_cpy (fw fo) (fw f) 0 0 32))) 0 0 8)) (va_cpy (fs fo) (fs (fkS (fwS f (va_cpy (fw fo) (fw f) 0 0 32)) (va_cpy (fk fo) (fk (fwS f (va_cpy (fw fo) (fw f) 0 0 32))) 0 0 8))) 0 0 8))) 0 0 8)) (fp fo) hi) ?_
  refine v_aload_n hC dX0_copyFrom_68 0 rfl ?_
  refine v_aload_n hC dX0_copyFrom_69 1 rfl ?_
  refine v_get (T := TX0) (N := 7) (v := .int (fd fo)) hC (5 * io) (rb_f0 hio) (cc_f0 Λ Y hio ((xFi_ne X (fpS (frS (fsS (fkS (fwS f (va_cpy (fw fo) (fw f) 0 0 32)) (va_cpy (fk fo) (fk (fwS f (va_cpy (fw fo) (fw f) 0 0 32))) 0 0 8)) (va_cpy (fs fo) (fs (fkS (fwS f (va_cpy (fw fo) (fw f) 0 0 32)) (va_cpy (fk fo) (fk (fwS f (va_cpy (fw fo) (fw f) 0 0 32))) 0 0 8))) 0 0 8)) (va_cpy (fr fo) (fr (fsS (fkS (fwS f (va_cpy (fw fo) (fw f) 0 0 32)) (va_cpy (fk fo) (fk (fwS f (va_cpy (fw fo) (fw f) 0 0 32))) 0 0 8)) (va_cpy (fs fo) (fs (fkS (fwS f (va_cpy (fw fo) (fw f) 0 0 32)) (va_cpy (fk fo) (fk (fwS f (va_cpy (fw fo) (fw f) 0 0 32))) 0 0 8))) 0 0 8))) 0 0 8)) (fp fo)) hneo).trans hfo)) in_X0_copyFrom_X0 rfl 5 (by decide) fl_X0_copyFrom_32 rfl dX0_copyFrom_70 ?_
  refine v_put (T := TX0) (N := 7) (v := .int (fd fo)) (ty := .int) hC (5 * i) (rb_f0 hi) (cc_f0 Λ Y hi (xFi_at X i (fpS (frS (fsS (fkS (fwS f (va_cpy (fw fo) (fw f) 0 0 32)) (va_cpy (fk fo) (fk (fwS f (va_cpy (fw fo) (fw f) 0 0 32))) 0 0 8)) (va_cpy (fs fo) (fs (fkS (fwS f (va_cpy (fw fo) (fw f) 0 0 32)) (va_cpy (fk fo) (fk (fwS f (va_cpy (fw fo) (fw f) 0 0 32))) 0 0 8))) 0 0 8)) (va_cpy (fr fo) (fr (fsS (fkS (fwS f (va_cpy (fw fo) (fw f) 0 0 32)) (va_cpy (fk fo) (fk (fwS f (va_cpy (fw fo) (fw f) 0 0 32))) 0 0 8)) (va_cpy (fs fo) (fs (fkS (fwS f (va_cpy (fw fo) (fw f) 0 0 32)) (va_cpy (fk fo) (fk (fwS f (va_cpy (fw fo) (fw f) 0 0 32))) 0 0 8))) 0 0 8))) 0 0 8)) (fp fo)))) in_X0_copyFrom_X0 tyX0 tyX0_ok nmX0 rfl 5 (by decide) fl_X0_copyFrom_32 rfl (by decide +kernel) rfl rfl (Nat.le_of_ble_eq_true rfl) dX0_copyFrom_73 ?_
  refine v_mem (cs_fd Λ X Y (fpS (frS (fsS (fkS (fwS f (va_cpy (fw fo) (fw f) 0 0 32)) (va_cpy (fk fo) (fk (fwS f (va_cpy (fw fo) (fw f) 0 0 32))) 0 0 8)) (va_cpy (fs fo) (fs (fkS (fwS f (va_cpy (fw fo) (fw f) 0 0 32)) (va_cpy (fk fo) (fk (fwS f (va_cpy (fw fo) (fw f) 0 0 32))) 0 0 8))) 0 0 8)) (va_cpy (fr fo) (fr (fsS (fkS (fwS f (va_cpy (fw fo) (fw f) 0 0 32)) (va_cpy (fk fo) (fk (fwS f (va_cpy (fw fo) (fw f) 0 0 32))) 0 0 8)) (va_cpy (fs fo) (fs (fkS (fwS f (va_cpy (fw fo) (fw f) 0 0 32)) (va_cpy (fk fo) (fk (fwS f (va_cpy (fw fo) (fw f) 0 0 32))) 0 0 8))) 0 0 8))) 0 0 8)) (fp fo)) (fd fo) hi) ?_
  refine v_aload_n hC dX0_copyFrom_76 0 rfl ?_
  refine v_aload_n hC dX0_copyFrom_77 1 rfl ?_
  refine v_get (T := TX0) (N := 7) (v := .int (bI (fa fo))) hC (5 * io) (rb_f0 hio) (cc_f0 Λ Y hio ((xFi_ne X (fdS (fpS (frS (fsS (fkS (fwS f (va_cpy (fw fo) (fw f) 0 0 32)) (va_cpy (fk fo) (fk (fwS f (va_cpy (fw fo) (fw f) 0 0 32))) 0 0 8)) (va_cpy (fs fo) (fs (fkS (fwS f (va_cpy (fw fo) (fw f) 0 0 32)) (va_cpy (fk fo) (fk (fwS f (va_cpy (fw fo) (fw f) 0 0 32))) 0 0 8))) 0 0 8)) (va_cpy (fr fo) (fr (fsS (fkS (fwS f (va_cpy (fw fo) (fw f) 0 0 32)) (va_cpy (fk fo) (fk (fwS f (va_cpy (fw fo) (fw f) 0 0 32))) 0 0 8)) (va_cpy (fs fo) (fs (fkS (fwS f (va_cpy (fw fo) (fw f) 0 0 32)) (va_cpy (fk fo) (fk (fwS f (va_cpy (fw fo) (fw f) 0 0 32))) 0 0 8))) 0 0 8))) 0 0 8)) (fp fo)) (fd fo)) hneo).trans hfo)) in_X0_copyFrom_X0 rfl 6 (by decide) fl_X0_copyFrom_35 rfl dX0_copyFrom_78 ?_
  refine v_put (T := TX0) (N := 7) (v := .int (bI (fa fo))) (ty := .boolean) hC (5 * i) (rb_f0 hi) (cc_f0 Λ Y hi (xFi_at X i (fdS (fpS (frS (fsS (fkS (fwS f (va_cpy (fw fo) (fw f) 0 0 32)) (va_cpy (fk fo) (fk (fwS f (va_cpy (fw fo) (fw f) 0 0 32))) 0 0 8)) (va_cpy (fs fo) (fs (fkS (fwS f (va_cpy (fw fo) (fw f) 0 0 32)) (va_cpy (fk fo) (fk (fwS f (va_cpy (fw fo) (fw f) 0 0 32))) 0 0 8))) 0 0 8)) (va_cpy (fr fo) (fr (fsS (fkS (fwS f (va_cpy (fw fo) (fw f) 0 0 32)) (va_cpy (fk fo) (fk (fwS f (va_cpy (fw fo) (fw f) 0 0 32))) 0 0 8)) (va_cpy (fs fo) (fs (fkS (fwS f (va_cpy (fw fo) (fw f) 0 0 32)) (va_cpy (fk fo) (fk (fwS f (va_cpy (fw fo) (fw f) 0 0 32))) 0 0 8))) 0 0 8))) 0 0 8)) (fp fo)) (fd fo)))) in_X0_copyFrom_X0 tyX0 tyX0_ok nmX0 rfl 6 (by decide) fl_X0_copyFrom_35 rfl (by decide +kernel) (by first | rfl | exact nar_b _) (fits_b _) (Nat.le_of_ble_eq_true rfl) dX0_copyFrom_81 ?_
  refine v_mem (cs_fa Λ X Y (fdS (fpS (frS (fsS (fkS (fwS f (va_cpy (fw fo) (fw f) 0 0 32)) (va_cpy (fk fo) (fk (fwS f (va_cpy (fw fo) (fw f) 0 0 32))) 0 0 8)) (va_cpy (fs fo) (fs (fkS (fwS f (va_cpy (fw fo) (fw f) 0 0 32)) (va_cpy (fk fo) (fk (fwS f (va_cpy (fw fo) (fw f) 0 0 32))) 0 0 8))) 0 0 8)) (va_cpy (fr fo) (fr (fsS (fkS (fwS f (va_cpy (fw fo) (fw f) 0 0 32)) (va_cpy (fk fo) (fk (fwS f (va_cpy (fw fo) (fw f) 0 0 32))) 0 0 8)) (va_cpy (fs fo) (fs (fkS (fwS f (va_cpy (fw fo) (fw f) 0 0 32)) (va_cpy (fk fo) (fk (fwS f (va_cpy (fw fo) (fw f) 0 0 32))) 0 0 8))) 0 0 8))) 0 0 8)) (fp fo)) (fd fo)) (fa fo) hi) ?_
  exact v_vret hC hR rfl rfl dX0_copyFrom_84
theorem in_X0_fillWith_X0 : ∀ w ∈ wsX00, w ∈ wsX0_fillWith := by decide +kernel
theorem fl_X0_fillWith_15 : Cond.fieldLink RX0 15 "BoatSets$Fleet" "kinds" "[I" ∈ wsX0_fillWith := by decide +kernel
theorem fl_X0_fillWith_9 : Cond.fieldLink RX0 9 "BoatSets$Fleet" "words" "[J" ∈ wsX0_fillWith := by decide +kernel
theorem wd_X0_fillWith_iniX4_join : Cond.initialized (yX4_join).cls ∈ wsX0_fillWith := by decide +kernel
theorem wd_X0_fillWith_stX4_join : Cond.static yX4_join ∈ wsX0_fillWith := by decide +kernel
theorem hd_X0_fillWith : yX0_fillWith.cls = RX0 ∧ yX0_fillWith.cls ≠ "java/lang/invoke/MethodHandle" ∧ yX0_fillWith.cls ≠ "java/lang/invoke/VarHandle" ∧ (parseMethodDescriptor yX0_fillWith.desc).map (fun d => d.parameters.length) = some 3 := by decide +kernel
set_option maxHeartbeats 400000 in
set_option maxRecDepth 100000 in
theorem c_X0_fillWith (Λ : Lk) (X : XS) (Y : YS) {i : Nat} {f : FR} (hi : i < 37) (hf : X.1 i = f) {how : Int32} {io : Nat} {fo : FR} (hio : io < 37) (hfo : X.1 io = fo) {iq : Nat} {fq : FR} (hiq : iq < 37) (hfq : X.1 iq = fq) (hneo : io ≠ i) (hneq : iq ≠ i) : Con Λ yX0_fillWith wsX0_fillWith { frames := 4, cells := 0, slots := 0, locals := 87 } [rf Λ (5 * i), .int how, rf Λ (5 * io), rf Λ (5 * iq)] (CC Λ X Y) none (CC Λ (xFi X i (flF how fo fq f)) Y) := by
  refine con_start (cc := cX0_fillWith) (maxL := 8) (ret := none) (by decide) rfl (Nat.le_of_ble_eq_true rfl) ?_
  intro κ hC hR
  have hC : Ok Λ { frames := 4, cells := 0, slots := 0, locals := 87 } cX0_fillWith wsX0_fillWith RX0 8 κ := hC
  refine v_args (lv' := [(0, rf Λ (5 * i)), (1, .int how), (2, rf Λ (5 * io)), (3, rf Λ (5 * iq))]) rfl ?_
  refine v_mem (congrArg (fun Z => CC Λ Z Y) (xFi_self hf)) ?_
  refine v_aload_n hC dX0_fillWith_0 0 rfl ?_
  refine v_callVv (C2 := CC Λ (xFi (xFi X i f) i (fillF f)) Y) (As := []) (rest := []) hC 0 (5 * i) (c_X0_clearNumbers Λ (xFi X i f) Y (i := i) (f := f) hi (xFi_at X i f)) (rb_f0 hi) (cc_f0 Λ Y hi (xFi_at X i f)) rfl gX0_fillWith_X0_clearNumbers rfl rfl rfl hd_X0_clearNumbers ⟨by decide, by decide⟩ rfl rfl (Nat.le_of_ble_eq_true rfl) dX0_fillWith_1 ?_
  refine v_mem (mem_X (xFi_2 X i f (fillF f))) ?_
  refine v_iconst (v := 0) hC dX0_fillWith_4 (by decide) ?_
  refine v_istore (lv' := [(4, .int 0), (0, rf Λ (5 * i)), (1, .int how), (2, rf Λ (5 * io)), (3, rf Λ (5 * iq))]) hC dX0_fillWith_5 (by decide) rfl ?_
  have L7 : ∀ (fu7 : Nat) (b : Nat) (g : FR) (x4 : Int32), b ≤ 32 → fwO how fo fq (32 - b) b g = fwO how fo fq 32 0 (fillF f) → x4 = nI b → 32 - b < fu7 → V Λ κ (CC Λ (xFi X i g) Y) 7 [(0, rf Λ (5 * i)), (1, .int how), (2, rf Λ (5 * io)), (3, rf Λ (5 * iq)), (4, .int x4)] [] := by
    intro fu7
    induction fu7 with
    | zero => intro b g x4 hb hr e4 hfu7; exact absurd hfu7 (Nat.not_lt_zero _)
    | succ fu7 ih7 =>
      intro b g x4 hb hr e4 hfu7
      subst e4
      refine v_iload hC dX0_fillWith_7 4 rfl ?_
      refine v_bipush (v := 32) hC dX0_fillWith_9 (by decide) ?_
      refine v_nge (a := b) (b := 32) (tgt := 80) hC dX0_fillWith_11 (by decide) rfl rfl (by omega) (by omega) (fun c11 => ?_) (fun c11 => ?_)
      · have c11' := Nat.not_lt.mpr c11
        refine v_iconst (v := 0) hC dX0_fillWith_80 (by decide) ?_
        refine v_istore (lv' := [(4, .int 0), (0, rf Λ (5 * i)), (1, .int how), (2, rf Λ (5 * io)), (3, rf Λ (5 * iq))]) hC dX0_fillWith_81 (by decide) rfl ?_
        have L83 : ∀ (fu83 : Nat) (c : Nat) (h : FR) (x4 : Int32), c ≤ 8 → kbF (8 - c) c h = flF how fo fq f → x4 = nI c → 8 - c < fu83 → V Λ κ (CC Λ (xFi X i h) Y) 83 [(0, rf Λ (5 * i)), (1, .int how), (2, rf Λ (5 * io)), (3, rf Λ (5 * iq)), (4, .int x4)] [] := by
          intro fu83
          induction fu83 with
          | zero => intro c h x4 hc hr3 e4 hfu83; exact absurd hfu83 (Nat.not_lt_zero _)
          | succ fu83 ih83 =>
            intro c h x4 hc hr3 e4 hfu83
            subst e4
            refine v_iload hC dX0_fillWith_83 4 rfl ?_
            refine v_bipush (v := 8) hC dX0_fillWith_85 (by decide) ?_
            refine v_nge (a := c) (b := 8) (tgt := 109) hC dX0_fillWith_87 (by decide) rfl rfl (by omega) (by omega) (fun c87 => ?_) (fun c87 => ?_)
            · have c87' := Nat.not_lt.mpr c87
              exact v_vret hC hR rfl (mem_f (by rw [← hr3, show 8 - c = 0 by omega]; rfl)) dX0_fillWith_109
            · have c87' := Nat.not_le.mpr c87
              refine v_aload_n hC dX0_fillWith_90 0 rfl ?_
              refine v_get (T := TX0) (N := 7) (v := rf Λ (5 * i + 2)) hC (5 * i) (rb_f0 hi) (cc_f0 Λ Y hi (xFi_at X i h)) in_X0_fillWith_X0 rfl 1 (by decide) fl_X0_fillWith_15 rfl dX0_fillWith_91 ?_
              refine v_iload hC dX0_fillWith_94 4 rfl ?_
              refine v_aload_n hC dX0_fillWith_96 0 rfl ?_
              refine v_iload hC dX0_fillWith_97 4 rfl ?_
              refine v_callVr (v := .int (bestC h c)) (C2 := CC Λ (xFi X i h) Y) (As := [.int (nI c)]) (rest := [.int (nI c), rf Λ (5 * i + 2)]) hC 1 (5 * i) (c_X0_bestKind Λ (xFi X i h) Y (i := i) (f := h) hi (xFi_at X i h) (b := c) (by omega)) (rb_f0 hi) (cc_f0 Λ Y hi (xFi_at X i h)) rfl gX0_fillWith_X0_bestKind rfl rfl rfl hd_X0_bestKind ⟨by decide, by decide⟩ rfl rfl (Nat.le_of_ble_eq_true rfl) dX0_fillWith_99 ?_
              refine v_iast (n := 8) (f := (fk h)) hC (5 * i + 2) (rb_f hi (by decide)) (cc_f2 Λ Y hi (xFi_at X i h)) c rfl (by omega) (by decide) dX0_fillWith_102 ?_
              refine v_mem (cs_fk Λ X Y h (upd (fk h) c (bestC h c)) hi) ?_
              refine v_iinc (j := 4) (v := nI (c + 1)) (lv' := [(4, .int (nI (c + 1))), (0, rf Λ (5 * i)), (1, .int how), (2, rf Λ (5 * io)), (3, rf Λ (5 * iq))]) hC dX0_fillWith_103 rfl (nI_add c 1) (by decide) rfl ?_
              refine v_goto (tgt := 83) hC dX0_fillWith_106 (by decide) ?_
              refine v_sub (lv' := [(0, rf Λ (5 * i)), (1, .int how), (2, rf Λ (5 * io)), (3, rf Λ (5 * iq)), (4, .int (nI (c + 1)))]) [1, 2, 3, 4, 0] rfl ?_
              refine v_mem (C' := CC Λ (xFi X i (fkS h (upd (fk h) c (bestC h c)))) Y) rfl ?_
              exact ih83 (c + 1) (fkS h (upd (fk h) c (bestC h c))) _ (by omega) (by rw [← hr3, show 8 - c = (8 - (c + 1)) + 1 by omega, kbF]) rfl (by omega)
        refine v_sub (lv' := [(0, rf Λ (5 * i)), (1, .int how), (2, rf Λ (5 * io)), (3, rf Λ (5 * iq)), (4, .int 0)]) [1, 2, 3, 4, 0] rfl ?_
        refine v_mem (C' := CC Λ (xFi X i g) Y) rfl ?_
        exact L83 _ 0 g _ (by omega) (by rw [flF, ← hr, show 32 - b = 0 by omega]; rfl) rfl (Nat.lt_succ_self _)
      · have c11' := Nat.not_le.mpr c11
        refine v_iload_n hC dX0_fillWith_14 1 rfl ?_
        refine v_aload_n hC dX0_fillWith_15 2 rfl ?_
        refine v_get (T := TX0) (N := 7) (v := rf Λ (5 * io + 1)) hC (5 * io) (rb_f0 hio) (cc_f0 Λ Y hio ((xFi_ne X g hneo).trans hfo)) in_X0_fillWith_X0 rfl 0 (by decide) fl_X0_fillWith_9 rfl dX0_fillWith_16 ?_
        refine v_iload hC dX0_fillWith_19 4 rfl ?_
        refine v_lald (n := 32) (f := (fw fo)) hC (5 * io + 1) (rb_f hio (by decide)) (cc_f1 Λ Y hio ((xFi_ne X g hneo).trans hfo)) b rfl (by omega) (by decide) dX0_fillWith_21 ?_
        refine v_aload_n hC dX0_fillWith_22 3 rfl ?_
        refine v_get (T := TX0) (N := 7) (v := rf Λ (5 * iq + 1)) hC (5 * iq) (rb_f0 hiq) (cc_f0 Λ Y hiq ((xFi_ne X g hneq).trans hfq)) in_X0_fillWith_X0 rfl 0 (by decide) fl_X0_fillWith_9 rfl dX0_fillWith_23 ?_
        refine v_iload hC dX0_fillWith_26 4 rfl ?_
        refine v_lald (n := 32) (f := (fw fq)) hC (5 * iq + 1) (rb_f hiq (by decide)) (cc_f1 Λ Y hiq ((xFi_ne X g hneq).trans hfq)) b rfl (by omega) (by decide) dX0_fillWith_28 ?_
        refine v_callNr (v := .long (joC how ((fw fo) b) ((fw fq) b))) (C2 := CC Λ (xFi X i g) Y) (As := [.int how, .long ((fw fo) b), .long ((fw fq) b)]) (rest := []) (host := "BoatSets") hC 3 (c_X4_join Λ (xFi X i g) Y (how := how) (x := (fw fo) b) (y := (fw fq) b)) gX0_fillWith_X4_join_n97 rfl rfl rfl (by decide +kernel) wd_X0_fillWith_iniX4_join wd_X0_fillWith_stX4_join hd_X4_join ⟨by decide, by decide⟩ rfl rfl (Nat.le_of_ble_eq_true rfl) dX0_fillWith_29 ?_
        refine v_lstore (lv' := [(5, .long (joC how ((fw fo) b) ((fw fq) b))), (0, rf Λ (5 * i)), (1, .int how), (2, rf Λ (5 * io)), (3, rf Λ (5 * iq)), (4, .int (nI b))]) hC dX0_fillWith_32 (by decide) rfl ?_
        refine v_iconst (v := 0) hC dX0_fillWith_34 (by decide) ?_
        refine v_istore (lv' := [(7, .int 0), (5, .long (joC how ((fw fo) b) ((fw fq) b))), (0, rf Λ (5 * i)), (1, .int how), (2, rf Λ (5 * io)), (3, rf Λ (5 * iq)), (4, .int (nI b))]) hC dX0_fillWith_35 (by decide) rfl ?_
        have L37 : ∀ (fu37 : Nat) (k : Nat) (h : FR) (x7 : Int32), k ≤ 64 → fbI (joC how (fw fo b) (fw fq b)) b (64 - k) k h = fbI (joC how (fw fo b) (fw fq b)) b 64 0 g → x7 = nI k → 64 - k < fu37 → V Λ κ (CC Λ (xFi X i h) Y) 37 [(0, rf Λ (5 * i)), (1, .int how), (2, rf Λ (5 * io)), (3, rf Λ (5 * iq)), (4, .int (nI b)), (5, .long (joC how ((fw fo) b) ((fw fq) b))), (7, .int x7)] [] := by
          intro fu37
          induction fu37 with
          | zero => intro k h x7 hk hr2 e7 hfu37; exact absurd hfu37 (Nat.not_lt_zero _)
          | succ fu37 ih37 =>
            intro k h x7 hk hr2 e7 hfu37
            subst e7
            refine v_iload hC dX0_fillWith_37 6 rfl ?_
            refine v_bipush (v := 64) hC dX0_fillWith_39 (by decide) ?_
            refine v_nge (a := k) (b := 64) (tgt := 74) hC dX0_fillWith_41 (by decide) rfl rfl (by omega) (by omega) (fun c41 => ?_) (fun c41 => ?_)
            · have c41' := Nat.not_lt.mpr c41
              refine v_iinc (j := 4) (v := nI (b + 1)) (lv' := [(4, .int (nI (b + 1))), (0, rf Λ (5 * i)), (1, .int how), (2, rf Λ (5 * io)), (3, rf Λ (5 * iq)), (5, .long (joC how ((fw fo) b) ((fw fq) b))), (7, .int (nI k))]) hC dX0_fillWith_74 rfl (nI_add b 1) (by decide) rfl ?_
              refine v_goto (tgt := 7) hC dX0_fillWith_77 (by decide) ?_
              refine v_sub (lv' := [(0, rf Λ (5 * i)), (1, .int how), (2, rf Λ (5 * io)), (3, rf Λ (5 * iq)), (4, .int (nI (b + 1)))]) [1, 2, 3, 4, 0] rfl ?_
              refine v_mem (C' := CC Λ (xFi X i h) Y) rfl ?_
              exact ih7 (b + 1) h _ (by omega) (by rw [← hr, show 32 - b = (32 - (b + 1)) + 1 by omega, fwO, ← hr2, show 64 - k = 0 by omega]; rfl) rfl (by omega)
            · have c41' := Nat.not_le.mpr c41
              refine v_lload hC dX0_fillWith_44 5 rfl ?_
              refine v_iload hC dX0_fillWith_46 6 rfl ?_
              refine v_lushr (v := ((joC how ((fw fo) b) ((fw fq) b)).toUInt64 >>> ((nI k).toInt64.toUInt64 &&& Int64.toUInt64 63)).toInt64) hC dX0_fillWith_48 rfl ?_
              refine v_lconst (v := 1) hC dX0_fillWith_49 (by decide) ?_
              refine v_land hC dX0_fillWith_50 ?_
              refine v_lconst (v := 0) hC dX0_fillWith_51 (by decide) ?_
              refine v_lcmp hC dX0_fillWith_52 ?_
              refine v_topi (y := bI (bl (joC how (fw fo b) (fw fq b)) k)) (bit64 _ (by omega)) ?_
              refine v_beq (b := bl (joC how (fw fo b) (fw fq b)) k) (tgt := 68) hC dX0_fillWith_53 (by decide) (fun c53 => ?_) (fun c53 => ?_)
              · skip
                refine v_iinc (j := 6) (v := nI (k + 1)) (lv' := [(7, .int (nI (k + 1))), (0, rf Λ (5 * i)), (1, .int how), (2, rf Λ (5 * io)), (3, rf Λ (5 * iq)), (4, .int (nI b)), (5, .long (joC how ((fw fo) b) ((fw fq) b)))]) hC dX0_fillWith_68 rfl (nI_add k 1) (by decide) rfl ?_
                refine v_goto (tgt := 37) hC dX0_fillWith_71 (by decide) ?_
                refine v_sub (lv' := [(0, rf Λ (5 * i)), (1, .int how), (2, rf Λ (5 * io)), (3, rf Λ (5 * iq)), (4, .int (nI b)), (5, .long (joC how ((fw fo) b) ((fw fq) b))), (7, .int (nI (k + 1)))]) [1, 2, 3, 4, 5, 6, 0] rfl ?_
                refine v_mem (C' := CC Λ (xFi X i h) Y) rfl ?_
                exact ih37 (k + 1) h _ (by omega) (by rw [← hr2, show 64 - k = (64 - (k + 1)) + 1 by omega, fbI, if_neg (by rw [c53]; decide)]) rfl (by omega)
              · skip
                refine v_aload_n hC dX0_fillWith_56 0 rfl ?_
                refine v_iload hC dX0_fillWith_57 4 rfl ?_
                refine v_bipush (v := 64) hC dX0_fillWith_59 (by decide) ?_
                refine v_imul (x := nI b) (y := 64) hC dX0_fillWith_61 ?_
                refine v_topi (y := nI (b * 64)) (pk_mul b 64) ?_
                refine v_iload hC dX0_fillWith_62 6 rfl ?_
                refine v_iadd (x := nI (b * 64)) (y := nI k) hC dX0_fillWith_64 ?_
                refine v_topi (y := nI (b * 64 + k)) (nI_add (b * 64) k) ?_
                refine v_callVv (C2 := CC Λ (xFi (xFi X i h) i (flipF h (b * 64 + k))) Y) (As := [.int (nI (b * 64 + k))]) (rest := []) hC 1 (5 * i) (c_X0_flip Λ (xFi X i h) Y (i := i) (f := h) hi (xFi_at X i h) (n := b * 64 + k) (by omega)) (rb_f0 hi) (cc_f0 Λ Y hi (xFi_at X i h)) rfl gX0_fillWith_X0_flip rfl rfl rfl hd_X0_flip ⟨by decide, by decide⟩ rfl rfl (Nat.le_of_ble_eq_true rfl) dX0_fillWith_65 ?_
                refine v_mem (mem_X (xFi_2 X i h (flipF h (b * 64 + k)))) ?_
                refine v_iinc (j := 6) (v := nI (k + 1)) (lv' := [(7, .int (nI (k + 1))), (0, rf Λ (5 * i)), (1, .int how), (2, rf Λ (5 * io)), (3, rf Λ (5 * iq)), (4, .int (nI b)), (5, .long (joC how ((fw fo) b) ((fw fq) b)))]) hC dX0_fillWith_68 rfl (nI_add k 1) (by decide) rfl ?_
                refine v_goto (tgt := 37) hC dX0_fillWith_71 (by decide) ?_
                refine v_sub (lv' := [(0, rf Λ (5 * i)), (1, .int how), (2, rf Λ (5 * io)), (3, rf Λ (5 * iq)), (4, .int (nI b)), (5, .long (joC how ((fw fo) b) ((fw fq) b))), (7, .int (nI (k + 1)))]) [1, 2, 3, 4, 5, 6, 0] rfl ?_
                refine v_mem (C' := CC Λ (xFi X i (flipF h (b * 64 + k))) Y) rfl ?_
                exact ih37 (k + 1) (flipF h (b * 64 + k)) _ (by omega) (by rw [← hr2, show 64 - k = (64 - (k + 1)) + 1 by omega, fbI, if_pos c53]) rfl (by omega)
        refine v_sub (lv' := [(0, rf Λ (5 * i)), (1, .int how), (2, rf Λ (5 * io)), (3, rf Λ (5 * iq)), (4, .int (nI b)), (5, .long (joC how ((fw fo) b) ((fw fq) b))), (7, .int 0)]) [2, 3, 4, 5, 6, 1, 0] rfl ?_
        refine v_mem (C' := CC Λ (xFi X i g) Y) rfl ?_
        exact L37 _ 0 g _ (by omega) rfl rfl (Nat.lt_succ_self _)
  refine v_sub (lv' := [(0, rf Λ (5 * i)), (1, .int how), (2, rf Λ (5 * io)), (3, rf Λ (5 * iq)), (4, .int 0)]) [1, 2, 3, 4, 0] rfl ?_
  refine v_mem (C' := CC Λ (xFi X i (fillF f)) Y) rfl ?_
  exact L7 _ 0 (fillF f) _ (by omega) rfl rfl (Nat.lt_succ_self _)
