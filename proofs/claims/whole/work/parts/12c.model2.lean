theorem hd_X5_goesAll : yX5_goesAll.cls = RX5 ∧ yX5_goesAll.cls ≠ "java/lang/invoke/MethodHandle" ∧ yX5_goesAll.cls ≠ "java/lang/invoke/VarHandle" ∧ (parseMethodDescriptor yX5_goesAll.desc).map (fun d => d.parameters.length) = some 4 := by decide +kernel
set_option maxHeartbeats 400000 in
set_option maxRecDepth 100000 in
theorem c_X5_goesAll (Λ : Lk) (X : XS) (Y : YS) {s : Nat} {lo : Nat} {hi : Nat} {comes : Bool} (hs : s < 6) (hhi : hi < 2048) (hlo : lo ≤ hi) : Con Λ yX5_goesAll wsX5_goesAll { frames := 7, cells := 0, slots := 0, locals := 160 } [rf Λ 204, .int (nI s), .int (nI lo), .int (nI hi), .int (bI comes)] (CC Λ X Y) (some (.int ((gaN s comes (hi + 1 - lo) lo 0 (yn Y)).2))) (CC Λ X (ynS Y ((gaN s comes (hi + 1 - lo) lo 0 (yn Y)).1))) := by
  refine con_start (cc := cX5_goesAll) (maxL := 7) (ret := (some .int)) (by decide) rfl (Nat.le_of_ble_eq_true rfl) ?_
  intro κ hC hR
  have hC : Ok Λ { frames := 7, cells := 0, slots := 0, locals := 160 } cX5_goesAll wsX5_goesAll RX5 7 κ := hC
  refine v_args (lv' := [(0, rf Λ 204), (1, .int (nI s)), (2, .int (nI lo)), (3, .int (nI hi)), (4, .int (bI comes))]) rfl ?_
  refine v_iconst (v := 0) hC dX5_goesAll_0 (by decide) ?_
  refine v_istore (lv' := [(5, .int 0), (0, rf Λ 204), (1, .int (nI s)), (2, .int (nI lo)), (3, .int (nI hi)), (4, .int (bI comes))]) hC dX5_goesAll_1 (by decide) rfl ?_
  refine v_iload_n hC dX5_goesAll_3 3 rfl ?_
  refine v_istore (lv' := [(6, .int (nI lo)), (5, .int 0), (0, rf Λ 204), (1, .int (nI s)), (2, .int (nI lo)), (3, .int (nI hi)), (4, .int (bI comes))]) hC dX5_goesAll_4 (by decide) rfl ?_
  have L6 : ∀ (fu6 : Nat) (j : Nat) (q : Nat) (g : Nat → Int32) (x5 : Int32) (x6 : Int32), j ≤ hi + 1 → q ≤ j → gaN s comes (hi + 1 - j) j q g = gaN s comes (hi + 1 - lo) lo 0 (yn Y) → x5 = nI q → x6 = nI j → hi + 1 - j < fu6 → V Λ κ (CC Λ X (ynS Y g)) 6 [(0, rf Λ 204), (1, .int (nI s)), (2, .int (nI lo)), (3, .int (nI hi)), (4, .int (bI comes)), (5, .int x5), (6, .int x6)] [] := by
    intro fu6
    induction fu6 with
    | zero => intro j q g x5 x6 hj hq hg e5 e6 hfu6; exact absurd hfu6 (Nat.not_lt_zero _)
    | succ fu6 ih6 =>
      intro j q g x5 x6 hj hq hg e5 e6 hfu6
      subst e5
      subst e6
      refine v_iload hC dX5_goesAll_6 6 rfl ?_
      refine v_iload_n hC dX5_goesAll_8 3 rfl ?_
      refine v_ngt (a := j) (b := hi) (tgt := 47) hC dX5_goesAll_9 (by decide) rfl rfl (by omega) (by omega) (fun c9 => ?_) (fun c9 => ?_)
      · have c9' := Nat.not_le.mpr c9
        refine v_iload hC dX5_goesAll_47 5 rfl ?_
        have e : gaN s comes (hi + 1 - lo) lo 0 (yn Y) = (g, nI q) := by rw [← hg, show hi + 1 - j = 0 by omega]; rfl
        exact v_iretG hC hR e dX5_goesAll_49
      · have c9' := Nat.not_lt.mpr c9
        refine v_aload_n hC dX5_goesAll_12 0 rfl ?_
        refine v_iload_n hC dX5_goesAll_13 1 rfl ?_
        refine v_iload hC dX5_goesAll_14 6 rfl ?_
        refine v_callVr (v := .int (bI (mb g s j))) (C2 := CC Λ X (ynS Y g)) (As := [.int (nI s), .int (nI j)]) (rest := []) hC 2 204 (c_X5_isIn Λ X (ynS Y g) (s := s) (n := j) (by omega) (by omega)) (nR_of (by decide)) (cc_204 Λ X (ynS Y g)) rfl gX5_goesAll_X5_isIn rfl rfl rfl hd_X5_isIn ⟨by decide, by decide⟩ rfl rfl (Nat.le_of_ble_eq_true rfl) dX5_goesAll_16 ?_
        refine v_iload hC dX5_goesAll_19 4 rfl ?_
        refine v_ceq (a := mb g s j) (b := comes) (tgt := 41) hC dX5_goesAll_21 (by decide) rfl rfl (fun c21 => ?_) (fun c21 => ?_)
        · skip
          refine v_iinc (j := 6) (v := nI (j + 1)) (lv' := [(6, .int (nI (j + 1))), (0, rf Λ 204), (1, .int (nI s)), (2, .int (nI lo)), (3, .int (nI hi)), (4, .int (bI comes)), (5, .int (nI q))]) hC dX5_goesAll_41 rfl (nI_add j 1) (by decide) rfl ?_
          refine v_goto (tgt := 6) hC dX5_goesAll_44 (by decide) ?_
          refine v_sub (lv' := [(0, rf Λ 204), (1, .int (nI s)), (2, .int (nI lo)), (3, .int (nI hi)), (4, .int (bI comes)), (5, .int (nI q)), (6, .int (nI (j + 1)))]) [1, 2, 3, 4, 5, 6, 0] rfl ?_
          refine v_mem (C' := CC Λ X (ynS Y g)) rfl ?_
          exact ih6 (j + 1) q g _ _ (by omega) (by omega) (by rw [← hg]; rw [show hi + 1 - j = (hi + 1 - (j + 1)) + 1 by omega]; simp [gaN, c9, c9', c21]) rfl rfl (by omega)
        · skip
          refine v_aload_n hC dX5_goesAll_24 0 rfl ?_
          refine v_iload_n hC dX5_goesAll_25 1 rfl ?_
          refine v_iload hC dX5_goesAll_26 6 rfl ?_
          refine v_iload hC dX5_goesAll_28 4 rfl ?_
          refine v_callVr (v := .int (bI ((goesN g s j comes).2))) (C2 := CC Λ X (ynS (ynS Y g) ((goesN g s j comes).1))) (As := [.int (nI s), .int (nI j), .int (bI comes)]) (rest := []) hC 3 204 (c_X5_goes Λ X (ynS Y g) (s := s) (n := j) (comes := comes) (by omega) (by omega)) (nR_of (by decide)) (cc_204 Λ X (ynS Y g)) rfl gX5_goesAll_X5_goes rfl rfl rfl hd_X5_goes ⟨by decide, by decide⟩ rfl rfl (Nat.le_of_ble_eq_true rfl) dX5_goesAll_30 ?_
          refine v_bne (b := (goesN g s j comes).2) (tgt := 38) hC dX5_goesAll_33 (by decide) (fun c33 => ?_) (fun c33 => ?_)
          · skip
            refine v_iinc (j := 5) (v := nI (q + 1)) (lv' := [(5, .int (nI (q + 1))), (0, rf Λ 204), (1, .int (nI s)), (2, .int (nI lo)), (3, .int (nI hi)), (4, .int (bI comes)), (6, .int (nI j))]) hC dX5_goesAll_38 rfl (nI_add q 1) (by decide) rfl ?_
            refine v_iinc (j := 6) (v := nI (j + 1)) (lv' := [(6, .int (nI (j + 1))), (5, .int (nI (q + 1))), (0, rf Λ 204), (1, .int (nI s)), (2, .int (nI lo)), (3, .int (nI hi)), (4, .int (bI comes))]) hC dX5_goesAll_41 rfl (nI_add j 1) (by decide) rfl ?_
            refine v_goto (tgt := 6) hC dX5_goesAll_44 (by decide) ?_
            refine v_sub (lv' := [(0, rf Λ 204), (1, .int (nI s)), (2, .int (nI lo)), (3, .int (nI hi)), (4, .int (bI comes)), (5, .int (nI (q + 1))), (6, .int (nI (j + 1)))]) [2, 3, 4, 5, 6, 1, 0] rfl ?_
            refine v_mem (C' := CC Λ X (ynS Y ((goesN g s j comes).1))) rfl ?_
            exact ih6 (j + 1) (q + 1) ((goesN g s j comes).1) _ _ (by omega) (by omega) (by rw [← hg]; rw [show hi + 1 - j = (hi + 1 - (j + 1)) + 1 by omega]; simp [gaN, c9, c9', c21, c33]) rfl rfl (by omega)
          · skip
            refine v_iconst (v := (-1)) hC dX5_goesAll_36 (by decide) ?_
            have e : gaN s comes (hi + 1 - lo) lo 0 (yn Y) = (((goesN g s j comes).1), (-1)) := by rw [← hg, show hi + 1 - j = (hi + 1 - (j + 1)) + 1 by omega]; simp [gaN, c9, c9', c21, c33]
            exact v_iretG hC hR e dX5_goesAll_37
  refine v_sub (lv' := [(0, rf Λ 204), (1, .int (nI s)), (2, .int (nI lo)), (3, .int (nI hi)), (4, .int (bI comes)), (5, .int 0), (6, .int (nI lo))]) [2, 3, 4, 5, 6, 1, 0] rfl ?_
  refine v_mem (C' := CC Λ X (ynS Y (yn Y))) rfl ?_
  exact L6 _ lo 0 (yn Y) _ _ (by omega) (by omega) rfl rfl rfl (Nat.lt_succ_self _)

theorem in_X5_nextToDock_X5 : ∀ w ∈ wsX50, w ∈ wsX5_nextToDock := by decide +kernel
theorem fl_X5_nextToDock_100 : Cond.fieldLink RX5 100 "BoatSetsModel" "looked" "I" ∈ wsX5_nextToDock := by decide +kernel
theorem hd_X5_nextToDock : yX5_nextToDock.cls = RX5 ∧ yX5_nextToDock.cls ≠ "java/lang/invoke/MethodHandle" ∧ yX5_nextToDock.cls ≠ "java/lang/invoke/VarHandle" ∧ (parseMethodDescriptor yX5_nextToDock.desc).map (fun d => d.parameters.length) = some 1 := by decide +kernel
set_option maxHeartbeats 4000000 in
set_option maxRecDepth 100000 in
theorem c_X5_nextToDock (Λ : Lk) (X : XS) (Y : YS) {s : Nat} (hs : s < 6) : Con Λ yX5_nextToDock wsX5_nextToDock { frames := 5, cells := 0, slots := 0, locals := 113 } [rf Λ 204, .int (nI s)] (CC Λ X Y) (some (.int ((ndN (yn Y) (yo Y) s 8).1))) (CC Λ X Y) := by
  refine con_start (cc := cX5_nextToDock) (maxL := 7) (ret := (some .int)) (by decide) rfl (Nat.le_of_ble_eq_true rfl) ?_
  intro κ hC hR
  have hC : Ok Λ { frames := 5, cells := 0, slots := 0, locals := 113 } cX5_nextToDock wsX5_nextToDock RX5 7 κ := hC
  refine v_args (lv' := [(0, rf Λ 204), (1, .int (nI s))]) rfl ?_
  refine v_bipush (v := (-5)) hC dX5_nextToDock_0 (by decide) ?_
  refine v_istore_n (lv' := [(2, .int (-5)), (0, rf Λ 204), (1, .int (nI s))]) hC dX5_nextToDock_2 (by decide) rfl ?_
  refine v_iconst (v := 0) hC dX5_nextToDock_3 (by decide) ?_
  refine v_istore_n (lv' := [(3, .int 0), (2, .int (-5)), (0, rf Λ 204), (1, .int (nI s))]) hC dX5_nextToDock_4 (by decide) rfl ?_
  refine v_iconst (v := 0) hC dX5_nextToDock_5 (by decide) ?_
  refine v_istore (lv' := [(4, .int 0), (3, .int 0), (2, .int (-5)), (0, rf Λ 204), (1, .int (nI s))]) hC dX5_nextToDock_6 (by decide) rfl ?_
  have L8 : ∀ (fu8 : Nat) (j : Nat) (x2 : Int32) (x3 : Int32) (x4 : Int32), j ≤ 8 → x2 = (ndN (yn Y) (yo Y) s j).1 → x3 = (ndN (yn Y) (yo Y) s j).2 → x4 = nI j → 8 - j < fu8 → V Λ κ (CC Λ X Y) 8 [(0, rf Λ 204), (1, .int (nI s)), (2, .int x2), (3, .int x3), (4, .int x4)] [] := by
    intro fu8
    induction fu8 with
    | zero => intro j x2 x3 x4 hj e2 e3 e4 hfu8; exact absurd hfu8 (Nat.not_lt_zero _)
    | succ fu8 ih8 =>
      intro j x2 x3 x4 hj e2 e3 e4 hfu8
      subst e2
      subst e3
      subst e4
      refine v_iload hC dX5_nextToDock_8 4 rfl ?_
      refine v_bipush (v := 8) hC dX5_nextToDock_10 (by decide) ?_
      refine v_nge (a := j) (b := 8) (tgt := 113) hC dX5_nextToDock_12 (by decide) rfl rfl (by omega) (by omega) (fun c12 => ?_) (fun c12 => ?_)
      · have c12' := Nat.not_lt.mpr c12
        refine v_iload_n hC dX5_nextToDock_113 2 rfl ?_
        exact v_iret hC hR (congrArg (fun z : Int32 => some (Value.int z)) (by have e : j = 8 := (by omega); subst e; rfl)) rfl dX5_nextToDock_114
      · have c12' := Nat.not_le.mpr c12
        refine v_aload_n hC dX5_nextToDock_15 0 rfl ?_
        refine v_iload_n hC dX5_nextToDock_16 1 rfl ?_
        refine v_iload hC dX5_nextToDock_17 4 rfl ?_
        refine v_callVr (v := .int (kindN (yn Y) s j)) (C2 := CC Λ X Y) (As := [.int (nI s), .int (nI j)]) (rest := []) hC 2 204 (c_X5_kindOf Λ X Y (s := s) (b := j) (by omega) (by omega)) (nR_of (by decide)) (cc_204 Λ X Y) rfl gX5_nextToDock_X5_kindOf rfl rfl rfl hd_X5_kindOf ⟨by decide, by decide⟩ rfl rfl (Nat.le_of_ble_eq_true rfl) dX5_nextToDock_19 ?_
        refine v_if_lt (tgt := 107) hC dX5_nextToDock_22 (by decide) (fun c22 => ?_) (fun c22 => ?_)
        · have c22' := Int32.not_le.mpr c22
          refine v_iinc (j := 4) (v := nI (j + 1)) (lv' := [(4, .int (nI (j + 1))), (0, rf Λ 204), (1, .int (nI s)), (2, .int ((ndN (yn Y) (yo Y) s j).1)), (3, .int ((ndN (yn Y) (yo Y) s j).2))]) hC dX5_nextToDock_107 rfl (nI_add j 1) (by decide) rfl ?_
          refine v_goto (tgt := 8) hC dX5_nextToDock_110 (by decide) ?_
          refine v_sub (lv' := [(0, rf Λ 204), (1, .int (nI s)), (2, .int ((ndN (yn Y) (yo Y) s j).1)), (3, .int ((ndN (yn Y) (yo Y) s j).2)), (4, .int (nI (j + 1)))]) [1, 2, 3, 4, 0] rfl ?_
          exact ih8 (j + 1) _ _ _ (by omega) (by simp [ndN, c12, c12', c22, c22']) (by simp [ndN, c12, c12', c22, c22']) rfl (by omega)
        · have c22' := Int32.not_lt.mp c22
          refine v_aload_n hC dX5_nextToDock_25 0 rfl ?_
          refine v_get (T := TX5) (N := 13) (v := .int (yo Y)) hC 204 (nR_of (by decide)) (cc_204 Λ X Y) in_X5_nextToDock_X5 rfl 8 (by decide) fl_X5_nextToDock_100 rfl dX5_nextToDock_26 ?_
          refine v_iload hC dX5_nextToDock_29 4 rfl ?_
          refine v_ishr (x := (yo Y)) (y := nI j) hC dX5_nextToDock_31 ?_
          refine v_iconst (v := 1) hC dX5_nextToDock_32 (by decide) ?_
          refine v_iand (x := (yo Y) >>> ((nI j) &&& 31)) (y := 1) hC dX5_nextToDock_33 ?_
          refine v_topi (y := bI (bt (yo Y) j)) (bit32 _ (by omega)) ?_
          refine v_bne (b := bt (yo Y) j) (tgt := 107) hC dX5_nextToDock_34 (by decide) (fun c34 => ?_) (fun c34 => ?_)
          · skip
            refine v_iinc (j := 4) (v := nI (j + 1)) (lv' := [(4, .int (nI (j + 1))), (0, rf Λ 204), (1, .int (nI s)), (2, .int ((ndN (yn Y) (yo Y) s j).1)), (3, .int ((ndN (yn Y) (yo Y) s j).2))]) hC dX5_nextToDock_107 rfl (nI_add j 1) (by decide) rfl ?_
            refine v_goto (tgt := 8) hC dX5_nextToDock_110 (by decide) ?_
            refine v_sub (lv' := [(0, rf Λ 204), (1, .int (nI s)), (2, .int ((ndN (yn Y) (yo Y) s j).1)), (3, .int ((ndN (yn Y) (yo Y) s j).2)), (4, .int (nI (j + 1)))]) [1, 2, 3, 4, 0] rfl ?_
            exact ih8 (j + 1) _ _ _ (by omega) (by simp [ndN, c12, c12', c22, c22', c34]) (by simp [ndN, c12, c12', c22, c22', c34]) rfl (by omega)
          · skip
            refine v_aload_n hC dX5_nextToDock_37 0 rfl ?_
            refine v_iload_n hC dX5_nextToDock_38 1 rfl ?_
            refine v_iload hC dX5_nextToDock_39 4 rfl ?_
            refine v_callVr (v := .int (tollN (yn Y) s j)) (C2 := CC Λ X Y) (As := [.int (nI s), .int (nI j)]) (rest := []) hC 2 204 (c_X5_tollOf Λ X Y (s := s) (b := j) (by omega) (by omega)) (nR_of (by decide)) (cc_204 Λ X Y) rfl gX5_nextToDock_X5_tollOf rfl rfl rfl hd_X5_tollOf ⟨by decide, by decide⟩ rfl rfl (Nat.le_of_ble_eq_true rfl) dX5_nextToDock_41 ?_
            refine v_if_le (tgt := 107) hC dX5_nextToDock_44 (by decide) (fun c44 => ?_) (fun c44 => ?_)
            · have c44' := Int32.not_lt.mpr c44
              refine v_iinc (j := 4) (v := nI (j + 1)) (lv' := [(4, .int (nI (j + 1))), (0, rf Λ 204), (1, .int (nI s)), (2, .int ((ndN (yn Y) (yo Y) s j).1)), (3, .int ((ndN (yn Y) (yo Y) s j).2))]) hC dX5_nextToDock_107 rfl (nI_add j 1) (by decide) rfl ?_
              refine v_goto (tgt := 8) hC dX5_nextToDock_110 (by decide) ?_
              refine v_sub (lv' := [(0, rf Λ 204), (1, .int (nI s)), (2, .int ((ndN (yn Y) (yo Y) s j).1)), (3, .int ((ndN (yn Y) (yo Y) s j).2)), (4, .int (nI (j + 1)))]) [1, 2, 3, 4, 0] rfl ?_
              exact ih8 (j + 1) _ _ _ (by omega) (by simp [ndN, c12, c12', c22, c22', c34, c44, c44']) (by simp [ndN, c12, c12', c22, c22', c34, c44, c44']) rfl (by omega)
            · have c44' := Int32.not_le.mp c44
              refine v_aload_n hC dX5_nextToDock_47 0 rfl ?_
              refine v_iload_n hC dX5_nextToDock_48 1 rfl ?_
              refine v_iload hC dX5_nextToDock_49 4 rfl ?_
              refine v_callVr (v := .int (unitsN (yn Y) s j)) (C2 := CC Λ X Y) (As := [.int (nI s), .int (nI j)]) (rest := []) hC 2 204 (c_X5_unitsOf Λ X Y (s := s) (b := j) (by omega) (by omega)) (nR_of (by decide)) (cc_204 Λ X Y) rfl gX5_nextToDock_X5_unitsOf rfl rfl rfl hd_X5_unitsOf ⟨by decide, by decide⟩ rfl rfl (Nat.le_of_ble_eq_true rfl) dX5_nextToDock_51 ?_
              refine v_aload_n hC dX5_nextToDock_54 0 rfl ?_
              refine v_iload_n hC dX5_nextToDock_55 1 rfl ?_
              refine v_iload hC dX5_nextToDock_56 4 rfl ?_
              refine v_callVr (v := .int (tollN (yn Y) s j)) (C2 := CC Λ X Y) (As := [.int (nI s), .int (nI j)]) (rest := [.int (unitsN (yn Y) s j)]) hC 2 204 (c_X5_tollOf Λ X Y (s := s) (b := j) (by omega) (by omega)) (nR_of (by decide)) (cc_204 Λ X Y) rfl gX5_nextToDock_X5_tollOf rfl rfl rfl hd_X5_tollOf ⟨by decide, by decide⟩ rfl rfl (Nat.le_of_ble_eq_true rfl) dX5_nextToDock_58 ?_
              refine v_isub (x := unitsN (yn Y) s j) (y := tollN (yn Y) s j) hC dX5_nextToDock_61 ?_
              refine v_istore (lv' := [(5, .int ((unitsN (yn Y) s j) - (tollN (yn Y) s j))), (0, rf Λ 204), (1, .int (nI s)), (2, .int ((ndN (yn Y) (yo Y) s j).1)), (3, .int ((ndN (yn Y) (yo Y) s j).2)), (4, .int (nI j))]) hC dX5_nextToDock_62 (by decide) rfl ?_
              refine v_iload_n hC dX5_nextToDock_64 3 rfl ?_
              refine v_bipush (v := (-5)) hC dX5_nextToDock_65 (by decide) ?_
              refine v_icmp_eq (x := (ndN (yn Y) (yo Y) s j).1) (y := (-5)) (tgt := 76) hC dX5_nextToDock_67 (by decide) (fun c67 => ?_) (fun c67 => ?_)
              · skip
                refine v_iconst (v := 1) hC dX5_nextToDock_76 (by decide) ?_
                refine v_goto (tgt := 81) hC dX5_nextToDock_77 (by decide) ?_
                refine v_istore (lv' := [(6, .int 1), (5, .int ((unitsN (yn Y) s j) - (tollN (yn Y) s j))), (0, rf Λ 204), (1, .int (nI s)), (2, .int ((ndN (yn Y) (yo Y) s j).1)), (3, .int ((ndN (yn Y) (yo Y) s j).2)), (4, .int (nI j))]) hC dX5_nextToDock_81 (by decide) rfl ?_
                refine v_iload hC dX5_nextToDock_83 0 rfl ?_
                refine v_if_eq (x := 1) (tgt := 93) hC dX5_nextToDock_85 (by decide) (fun h => absurd h (by decide)) (fun _ => ?_)
                refine v_iload hC dX5_nextToDock_88 6 rfl ?_
                refine v_goto (tgt := 94) hC dX5_nextToDock_90 (by decide) ?_
                refine v_istore_n (lv' := [(2, .int (nI j)), (6, .int 1), (5, .int ((unitsN (yn Y) s j) - (tollN (yn Y) s j))), (0, rf Λ 204), (1, .int (nI s)), (3, .int ((ndN (yn Y) (yo Y) s j).2)), (4, .int (nI j))]) hC dX5_nextToDock_94 (by decide) rfl ?_
                refine v_iload hC dX5_nextToDock_95 1 rfl ?_
                refine v_if_eq (x := 1) (tgt := 105) hC dX5_nextToDock_97 (by decide) (fun h => absurd h (by decide)) (fun _ => ?_)
                refine v_iload hC dX5_nextToDock_100 2 rfl ?_
                refine v_goto (tgt := 106) hC dX5_nextToDock_102 (by decide) ?_
                refine v_istore_n (lv' := [(3, .int ((unitsN (yn Y) s j) - (tollN (yn Y) s j))), (2, .int (nI j)), (6, .int 1), (5, .int ((unitsN (yn Y) s j) - (tollN (yn Y) s j))), (0, rf Λ 204), (1, .int (nI s)), (4, .int (nI j))]) hC dX5_nextToDock_106 (by decide) rfl ?_
                refine v_iinc (j := 6) (v := nI (j + 1)) (lv' := [(4, .int (nI (j + 1))), (3, .int ((unitsN (yn Y) s j) - (tollN (yn Y) s j))), (2, .int (nI j)), (6, .int 1), (5, .int ((unitsN (yn Y) s j) - (tollN (yn Y) s j))), (0, rf Λ 204), (1, .int (nI s))]) hC dX5_nextToDock_107 rfl (nI_add j 1) (by decide) rfl ?_
                refine v_goto (tgt := 8) hC dX5_nextToDock_110 (by decide) ?_
                refine v_sub (lv' := [(0, rf Λ 204), (1, .int (nI s)), (2, .int (nI j)), (3, .int ((unitsN (yn Y) s j) - (tollN (yn Y) s j))), (4, .int (nI (j + 1)))]) [5, 6, 2, 1, 0] rfl ?_
                exact ih8 (j + 1) _ _ _ (by omega) (by simp [ndN, c12, c12', c22, c22', c34, c44, c44', c67]) (by simp [ndN, c12, c12', c22, c22', c34, c44, c44', c67]) rfl (by omega)
              · skip
                refine v_iload hC dX5_nextToDock_70 0 rfl ?_
                refine v_iload_n hC dX5_nextToDock_72 4 rfl ?_
                refine v_icmp_le (x := (unitsN (yn Y) s j) - (tollN (yn Y) s j)) (y := (ndN (yn Y) (yo Y) s j).2) (tgt := 80) hC dX5_nextToDock_73 (by decide) (fun c73 => ?_) (fun c73 => ?_)
                · have c73' := Int32.not_lt.mpr c73
                  refine v_iconst (v := 0) hC dX5_nextToDock_80 (by decide) ?_
                  refine v_istore (lv' := [(6, .int 0), (5, .int ((unitsN (yn Y) s j) - (tollN (yn Y) s j))), (0, rf Λ 204), (1, .int (nI s)), (2, .int ((ndN (yn Y) (yo Y) s j).1)), (3, .int ((ndN (yn Y) (yo Y) s j).2)), (4, .int (nI j))]) hC dX5_nextToDock_81 (by decide) rfl ?_
                  refine v_iload hC dX5_nextToDock_83 0 rfl ?_
                  refine v_if_eq (x := 0) (tgt := 93) hC dX5_nextToDock_85 (by decide) (fun _ => ?_) (fun h => absurd (by decide) h)
                  refine v_iload_n hC dX5_nextToDock_93 4 rfl ?_
                  refine v_istore_n (lv' := [(2, .int ((ndN (yn Y) (yo Y) s j).1)), (6, .int 0), (5, .int ((unitsN (yn Y) s j) - (tollN (yn Y) s j))), (0, rf Λ 204), (1, .int (nI s)), (3, .int ((ndN (yn Y) (yo Y) s j).2)), (4, .int (nI j))]) hC dX5_nextToDock_94 (by decide) rfl ?_
                  refine v_iload hC dX5_nextToDock_95 1 rfl ?_
                  refine v_if_eq (x := 0) (tgt := 105) hC dX5_nextToDock_97 (by decide) (fun _ => ?_) (fun h => absurd (by decide) h)
                  refine v_iload_n hC dX5_nextToDock_105 5 rfl ?_
                  refine v_istore_n (lv' := [(3, .int ((ndN (yn Y) (yo Y) s j).2)), (2, .int ((ndN (yn Y) (yo Y) s j).1)), (6, .int 0), (5, .int ((unitsN (yn Y) s j) - (tollN (yn Y) s j))), (0, rf Λ 204), (1, .int (nI s)), (4, .int (nI j))]) hC dX5_nextToDock_106 (by decide) rfl ?_
                  refine v_iinc (j := 6) (v := nI (j + 1)) (lv' := [(4, .int (nI (j + 1))), (3, .int ((ndN (yn Y) (yo Y) s j).2)), (2, .int ((ndN (yn Y) (yo Y) s j).1)), (6, .int 0), (5, .int ((unitsN (yn Y) s j) - (tollN (yn Y) s j))), (0, rf Λ 204), (1, .int (nI s))]) hC dX5_nextToDock_107 rfl (nI_add j 1) (by decide) rfl ?_
                  refine v_goto (tgt := 8) hC dX5_nextToDock_110 (by decide) ?_
                  refine v_sub (lv' := [(0, rf Λ 204), (1, .int (nI s)), (2, .int ((ndN (yn Y) (yo Y) s j).1)), (3, .int ((ndN (yn Y) (yo Y) s j).2)), (4, .int (nI (j + 1)))]) [5, 6, 2, 1, 0] rfl ?_
                  exact ih8 (j + 1) _ _ _ (by omega) (by simp [ndN, c12, c12', c22, c22', c34, c44, c44', c67, c73, c73']) (by simp [ndN, c12, c12', c22, c22', c34, c44, c44', c67, c73, c73']) rfl (by omega)
                · have c73' := Int32.not_le.mp c73
                  refine v_iconst (v := 1) hC dX5_nextToDock_76 (by decide) ?_
                  refine v_goto (tgt := 81) hC dX5_nextToDock_77 (by decide) ?_
                  refine v_istore (lv' := [(6, .int 1), (5, .int ((unitsN (yn Y) s j) - (tollN (yn Y) s j))), (0, rf Λ 204), (1, .int (nI s)), (2, .int ((ndN (yn Y) (yo Y) s j).1)), (3, .int ((ndN (yn Y) (yo Y) s j).2)), (4, .int (nI j))]) hC dX5_nextToDock_81 (by decide) rfl ?_
                  refine v_iload hC dX5_nextToDock_83 0 rfl ?_
                  refine v_if_eq (x := 1) (tgt := 93) hC dX5_nextToDock_85 (by decide) (fun h => absurd h (by decide)) (fun _ => ?_)
                  refine v_iload hC dX5_nextToDock_88 6 rfl ?_
                  refine v_goto (tgt := 94) hC dX5_nextToDock_90 (by decide) ?_
                  refine v_istore_n (lv' := [(2, .int (nI j)), (6, .int 1), (5, .int ((unitsN (yn Y) s j) - (tollN (yn Y) s j))), (0, rf Λ 204), (1, .int (nI s)), (3, .int ((ndN (yn Y) (yo Y) s j).2)), (4, .int (nI j))]) hC dX5_nextToDock_94 (by decide) rfl ?_
                  refine v_iload hC dX5_nextToDock_95 1 rfl ?_
                  refine v_if_eq (x := 1) (tgt := 105) hC dX5_nextToDock_97 (by decide) (fun h => absurd h (by decide)) (fun _ => ?_)
                  refine v_iload hC dX5_nextToDock_100 2 rfl ?_
                  refine v_goto (tgt := 106) hC dX5_nextToDock_102 (by decide) ?_
                  refine v_istore_n (lv' := [(3, .int ((unitsN (yn Y) s j) - (tollN (yn Y) s j))), (2, .int (nI j)), (6, .int 1), (5, .int ((unitsN (yn Y) s j) - (tollN (yn Y) s j))), (0, rf Λ 204), (1, .int (nI s)), (4, .int (nI j))]) hC dX5_nextToDock_106 (by decide) rfl ?_
                  refine v_iinc (j := 6) (v := nI (j + 1)) (lv' := [(4, .int (nI (j + 1))), (3, .int ((unitsN (yn Y) s j) - (tollN (yn Y) s j))), (2, .int (nI j)), (6, .int 1), (5, .int ((unitsN (yn Y) s j) - (tollN (yn Y) s j))), (0, rf Λ 204), (1, .int (nI s))]) hC dX5_nextToDock_107 rfl (nI_add j 1) (by decide) rfl ?_
                  refine v_goto (tgt := 8) hC dX5_nextToDock_110 (by decide) ?_
                  refine v_sub (lv' := [(0, rf Λ 204), (1, .int (nI s)), (2, .int (nI j)), (3, .int ((unitsN (yn Y) s j) - (tollN (yn Y) s j))), (4, .int (nI (j + 1)))]) [5, 6, 2, 1, 0] rfl ?_
                  exact ih8 (j + 1) _ _ _ (by omega) (by simp [ndN, c12, c12', c22, c22', c34, c44, c44', c67, c73, c73']) (by simp [ndN, c12, c12', c22, c22', c34, c44, c44', c67, c73, c73']) rfl (by omega)
  refine v_sub (lv' := [(0, rf Λ 204), (1, .int (nI s)), (2, .int (-5)), (3, .int 0), (4, .int 0)]) [3, 4, 2, 1, 0] rfl ?_
  exact L8 _ 0 _ _ _ (by omega) rfl rfl rfl (Nat.lt_succ_self _)

theorem in_X5_docks_X5 : ∀ w ∈ wsX50, w ∈ wsX5_docks := by decide +kernel
theorem fl_X5_docks_100 : Cond.fieldLink RX5 100 "BoatSetsModel" "looked" "I" ∈ wsX5_docks := by decide +kernel
theorem hd_X5_docks : yX5_docks.cls = RX5 ∧ yX5_docks.cls ≠ "java/lang/invoke/MethodHandle" ∧ yX5_docks.cls ≠ "java/lang/invoke/VarHandle" ∧ (parseMethodDescriptor yX5_docks.desc).map (fun d => d.parameters.length) = some 1 := by decide +kernel
set_option maxHeartbeats 4000000 in
set_option maxRecDepth 100000 in
theorem c_X5_docks (Λ : Lk) (X : XS) (Y : YS) {s : Nat} (hs : s < 6) : Con Λ yX5_docks wsX5_docks { frames := 6, cells := 0, slots := 0, locals := 139 } [rf Λ 204, .int (nI s)] (CC Λ X Y) (some (.int (ofN (dkN s 9 (layN (yn Y) s 1 0) 0).1 s 2 - ofN (yn Y) s 2))) (CC Λ X (yoS (ynS Y ((dkN s 9 (layN (yn Y) s 1 0) 0).1)) ((dkN s 9 (layN (yn Y) s 1 0) 0).2))) := by
  refine con_start (cc := cX5_docks) (maxL := 4) (ret := (some .int)) (by decide) rfl (Nat.le_of_ble_eq_true rfl) ?_
  intro κ hC hR
  have hC : Ok Λ { frames := 6, cells := 0, slots := 0, locals := 139 } cX5_docks wsX5_docks RX5 4 κ := hC
  refine v_args (lv' := [(0, rf Λ 204), (1, .int (nI s))]) rfl ?_
  refine v_aload_n hC dX5_docks_0 0 rfl ?_
  refine v_iload_n hC dX5_docks_1 1 rfl ?_
  refine v_iconst (v := 2) hC dX5_docks_2 (by decide) ?_
  refine v_callVr (v := .int (ofN (yn Y) s 2)) (C2 := CC Λ X Y) (As := [.int (nI s), .int 2]) (rest := []) hC 2 204 (c_X5_of Λ X Y (s := s) (w := 2) (by omega) (by omega)) (nR_of (by decide)) (cc_204 Λ X Y) rfl gX5_docks_X5_of rfl rfl rfl hd_X5_of ⟨by decide, by decide⟩ rfl rfl (Nat.le_of_ble_eq_true rfl) dX5_docks_3 ?_
  refine v_istore_n (lv' := [(2, .int (ofN (yn Y) s 2)), (0, rf Λ 204), (1, .int (nI s))]) hC dX5_docks_6 (by decide) rfl ?_
  refine v_aload_n hC dX5_docks_7 1 rfl ?_
  refine v_iload_n hC dX5_docks_8 2 rfl ?_
  refine v_iconst (v := 1) hC dX5_docks_9 (by decide) ?_
  refine v_iconst (v := 0) hC dX5_docks_10 (by decide) ?_
  refine v_callVv (C2 := CC Λ X (ynS Y (layN (yn Y) s 1 0))) (As := [.int (nI s), .int 1, .int 0]) (rest := []) hC 3 204 (c_X5_lays Λ X Y (s := s) (w := 1) (v := 0) (by omega) (by omega)) (nR_of (by decide)) (cc_204 Λ X Y) rfl gX5_docks_X5_lays rfl rfl rfl hd_X5_lays ⟨by decide, by decide⟩ rfl rfl (Nat.le_of_ble_eq_true rfl) dX5_docks_11 ?_
  refine v_aload_n hC dX5_docks_14 1 rfl ?_
  refine v_iconst (v := 0) hC dX5_docks_15 (by decide) ?_
  refine v_put (T := TX5) (N := 13) (v := .int 0) (ty := .int) hC 204 (nR_of (by decide)) (cc_204 Λ X (ynS Y (layN (yn Y) s 1 0))) in_X5_docks_X5 tyX5 tyX5_ok nmX5 rfl 8 (by decide) fl_X5_docks_100 rfl (by decide +kernel) rfl rfl (Nat.le_of_ble_eq_true rfl) dX5_docks_16 ?_
  refine v_mem (cs_yo Λ X (ynS Y (layN (yn Y) s 1 0)) 0) ?_
  refine v_aload_n hC dX5_docks_19 1 rfl ?_
  refine v_iload_n hC dX5_docks_20 2 rfl ?_
  refine v_callVr (v := .int ((ndN (layN (yn Y) s 1 0) 0 s 8).1)) (C2 := CC Λ X (yoS (ynS Y (layN (yn Y) s 1 0)) 0)) (As := [.int (nI s)]) (rest := []) hC 1 204 (c_X5_nextToDock Λ X (yoS (ynS Y (layN (yn Y) s 1 0)) 0) (s := s) (by omega)) (nR_of (by decide)) (cc_204 Λ X (yoS (ynS Y (layN (yn Y) s 1 0)) 0)) rfl gX5_docks_X5_nextToDock rfl rfl rfl hd_X5_nextToDock ⟨by decide, by decide⟩ rfl rfl (Nat.le_of_ble_eq_true rfl) dX5_docks_21 ?_
  refine v_istore_n (lv' := [(3, .int ((ndN (layN (yn Y) s 1 0) 0 s 8).1)), (2, .int (ofN (yn Y) s 2)), (0, rf Λ 204), (1, .int (nI s))]) hC dX5_docks_24 (by decide) rfl ?_
  have L25 : ∀ (fu25 : Nat) (k2 : Nat) (g : Nat → Int32) (L : Int32) (x3 : Int32), un L < k2 → dkN s k2 g L = dkN s 9 (layN (yn Y) s 1 0) 0 → x3 = (ndN g L s 8).1 → k2 < fu25 → V Λ κ (CC Λ X (yoS (ynS Y g) L)) 25 [(0, rf Λ 204), (1, .int (nI s)), (2, .int (ofN (yn Y) s 2)), (3, .int x3)] [] := by
    intro fu25
    induction fu25 with
    | zero => intro k2 g L x3 hk2 hg e3 hfu25; exact absurd hfu25 (Nat.not_lt_zero _)
    | succ fu25 ih25 =>
      intro k2 g L x3 hk2 hg e3 hfu25
      subst e3
      obtain ⟨k3, rfl⟩ : ∃ z, k2 = z + 1 := ⟨k2 - 1, by omega⟩
      refine v_iload_n hC dX5_docks_25 3 rfl ?_
      refine v_bipush (v := (-5)) hC dX5_docks_26 (by decide) ?_
      refine v_icmp_eq (x := (ndN g L s 8).1) (y := (-5)) (tgt := 73) hC dX5_docks_28 (by decide) (fun c28 => ?_) (fun c28 => ?_)
      · skip
        refine v_aload_n hC dX5_docks_73 0 rfl ?_
        refine v_iload_n hC dX5_docks_74 1 rfl ?_
        refine v_iconst (v := 2) hC dX5_docks_75 (by decide) ?_
        refine v_callVr (v := .int (ofN g s 2)) (C2 := CC Λ X (yoS (ynS Y g) L)) (As := [.int (nI s), .int 2]) (rest := []) hC 2 204 (c_X5_of Λ X (yoS (ynS Y g) L) (s := s) (w := 2) (by omega) (by omega)) (nR_of (by decide)) (cc_204 Λ X (yoS (ynS Y g) L)) rfl gX5_docks_X5_of rfl rfl rfl hd_X5_of ⟨by decide, by decide⟩ rfl rfl (Nat.le_of_ble_eq_true rfl) dX5_docks_76 ?_
        refine v_iload_n hC dX5_docks_79 2 rfl ?_
        refine v_isub (x := ofN g s 2) (y := ofN (yn Y) s 2) hC dX5_docks_80 ?_
        exact v_iret hC hR (congrArg (fun z : Int32 => some (Value.int z)) (by rw [← hg]; simp [dkN, c28])) (by rw [← hg]; simp [dkN, c28]) dX5_docks_81
      · skip
        obtain ⟨b, hb, eb, hbt⟩ := ndN_some8 c28
        have c28b : ¬ nI b = -5 := fun h => c28 (eb.trans h)
        rw [eb]
        refine v_aload_n hC dX5_docks_31 0 rfl ?_
        refine v_dup hC dX5_docks_32 rfl ?_
        refine v_get (T := TX5) (N := 13) (v := .int L) hC 204 (nR_of (by decide)) (cc_204 Λ X (yoS (ynS Y g) L)) in_X5_docks_X5 rfl 8 (by decide) fl_X5_docks_100 rfl dX5_docks_33 ?_
        refine v_iconst (v := 1) hC dX5_docks_36 (by decide) ?_
        refine v_iload_n hC dX5_docks_37 3 rfl ?_
        refine v_ishl (x := 1) (y := nI b) hC dX5_docks_38 ?_
        refine v_ior (x := L) (y := 1 <<< ((nI b) &&& 31)) hC dX5_docks_39 ?_
        refine v_put (T := TX5) (N := 13) (v := .int (L ||| (1 <<< ((nI b) &&& 31)))) (ty := .int) hC 204 (nR_of (by decide)) (cc_204 Λ X (yoS (ynS Y g) L)) in_X5_docks_X5 tyX5 tyX5_ok nmX5 rfl 8 (by decide) fl_X5_docks_100 rfl (by decide +kernel) rfl rfl (Nat.le_of_ble_eq_true rfl) dX5_docks_40 ?_
        refine v_mem (cs_yo Λ X (yoS (ynS Y g) L) (L ||| (1 <<< ((nI b) &&& 31)))) ?_
        refine v_aload_n hC dX5_docks_43 0 rfl ?_
        refine v_iload_n hC dX5_docks_44 1 rfl ?_
        refine v_iconst (v := 0) hC dX5_docks_45 (by decide) ?_
        refine v_callVr (v := .int (ofN g s 0)) (C2 := CC Λ X (yoS (yoS (ynS Y g) L) (L ||| (1 <<< ((nI b) &&& 31))))) (As := [.int (nI s), .int 0]) (rest := []) hC 2 204 (c_X5_of Λ X (yoS (yoS (ynS Y g) L) (L ||| (1 <<< ((nI b) &&& 31)))) (s := s) (w := 0) (by omega) (by omega)) (nR_of (by decide)) (cc_204 Λ X (yoS (yoS (ynS Y g) L) (L ||| (1 <<< ((nI b) &&& 31))))) rfl gX5_docks_X5_of rfl rfl rfl hd_X5_of ⟨by decide, by decide⟩ rfl rfl (Nat.le_of_ble_eq_true rfl) dX5_docks_46 ?_
        refine v_aload_n hC dX5_docks_49 0 rfl ?_
        refine v_iload_n hC dX5_docks_50 1 rfl ?_
        refine v_iload_n hC dX5_docks_51 3 rfl ?_
        refine v_callVr (v := .int (tollN g s b)) (C2 := CC Λ X (yoS (yoS (ynS Y g) L) (L ||| (1 <<< ((nI b) &&& 31))))) (As := [.int (nI s), .int (nI b)]) (rest := [.int (ofN g s 0)]) hC 2 204 (c_X5_tollOf Λ X (yoS (yoS (ynS Y g) L) (L ||| (1 <<< ((nI b) &&& 31)))) (s := s) (b := b) (by omega) (by omega)) (nR_of (by decide)) (cc_204 Λ X (yoS (yoS (ynS Y g) L) (L ||| (1 <<< ((nI b) &&& 31))))) rfl gX5_docks_X5_tollOf rfl rfl rfl hd_X5_tollOf ⟨by decide, by decide⟩ rfl rfl (Nat.le_of_ble_eq_true rfl) dX5_docks_52 ?_
        refine v_icmp_lt (x := ofN g s 0) (y := tollN g s b) (tgt := 64) hC dX5_docks_55 (by decide) (fun c55 => ?_) (fun c55 => ?_)
        · have c55' := Int32.not_le.mpr c55
          refine v_aload_n hC dX5_docks_64 0 rfl ?_
          refine v_iload_n hC dX5_docks_65 1 rfl ?_
          refine v_callVr (v := .int ((ndN g (L ||| (1 <<< ((nI b) &&& 31))) s 8).1)) (C2 := CC Λ X (yoS (yoS (ynS Y g) L) (L ||| (1 <<< ((nI b) &&& 31))))) (As := [.int (nI s)]) (rest := []) hC 1 204 (c_X5_nextToDock Λ X (yoS (yoS (ynS Y g) L) (L ||| (1 <<< ((nI b) &&& 31)))) (s := s) (by omega)) (nR_of (by decide)) (cc_204 Λ X (yoS (yoS (ynS Y g) L) (L ||| (1 <<< ((nI b) &&& 31))))) rfl gX5_docks_X5_nextToDock rfl rfl rfl hd_X5_nextToDock ⟨by decide, by decide⟩ rfl rfl (Nat.le_of_ble_eq_true rfl) dX5_docks_66 ?_
          refine v_istore_n (lv' := [(3, .int ((ndN g (L ||| (1 <<< ((nI b) &&& 31))) s 8).1)), (0, rf Λ 204), (1, .int (nI s)), (2, .int (ofN (yn Y) s 2))]) hC dX5_docks_69 (by decide) rfl ?_
          refine v_goto (tgt := 25) hC dX5_docks_70 (by decide) ?_
          refine v_sub (lv' := [(0, rf Λ 204), (1, .int (nI s)), (2, .int (ofN (yn Y) s 2)), (3, .int ((ndN g (L ||| (1 <<< ((nI b) &&& 31))) s 8).1))]) [1, 2, 3, 0] rfl ?_
          refine v_mem (C' := CC Λ X (yoS (ynS Y g) (L ||| (1 <<< ((nI b) &&& 31))))) rfl ?_
          exact ih25 k3 g (L ||| (1 <<< ((nI b) &&& 31))) _ (by have := un_lt hb hbt; omega) (by rw [← hg]; simp [dkN, dkN1, eb, nI_clamp (show b < 2 ^ 31 by omega), c28, c28b, c55, c55']) rfl (by omega)
        · have c55' := Int32.not_lt.mp c55
          refine v_aload_n hC dX5_docks_58 0 rfl ?_
          refine v_iload_n hC dX5_docks_59 1 rfl ?_
          refine v_iload_n hC dX5_docks_60 3 rfl ?_
          refine v_callVv (C2 := CC Λ X (ynS (yoS (yoS (ynS Y g) L) (L ||| (1 <<< ((nI b) &&& 31)))) (becomesN g s b))) (As := [.int (nI s), .int (nI b)]) (rest := []) hC 2 204 (c_X5_becomes Λ X (yoS (yoS (ynS Y g) L) (L ||| (1 <<< ((nI b) &&& 31)))) (s := s) (b := b) (by omega) (by omega)) (nR_of (by decide)) (cc_204 Λ X (yoS (yoS (ynS Y g) L) (L ||| (1 <<< ((nI b) &&& 31))))) rfl gX5_docks_X5_becomes rfl rfl rfl hd_X5_becomes ⟨by decide, by decide⟩ rfl rfl (Nat.le_of_ble_eq_true rfl) dX5_docks_61 ?_
          refine v_aload_n hC dX5_docks_64 0 rfl ?_
          refine v_iload_n hC dX5_docks_65 1 rfl ?_
          refine v_callVr (v := .int ((ndN (becomesN g s b) (L ||| (1 <<< ((nI b) &&& 31))) s 8).1)) (C2 := CC Λ X (ynS (yoS (yoS (ynS Y g) L) (L ||| (1 <<< ((nI b) &&& 31)))) (becomesN g s b))) (As := [.int (nI s)]) (rest := []) hC 1 204 (c_X5_nextToDock Λ X (ynS (yoS (yoS (ynS Y g) L) (L ||| (1 <<< ((nI b) &&& 31)))) (becomesN g s b)) (s := s) (by omega)) (nR_of (by decide)) (cc_204 Λ X (ynS (yoS (yoS (ynS Y g) L) (L ||| (1 <<< ((nI b) &&& 31)))) (becomesN g s b))) rfl gX5_docks_X5_nextToDock rfl rfl rfl hd_X5_nextToDock ⟨by decide, by decide⟩ rfl rfl (Nat.le_of_ble_eq_true rfl) dX5_docks_66 ?_
          refine v_istore_n (lv' := [(3, .int ((ndN (becomesN g s b) (L ||| (1 <<< ((nI b) &&& 31))) s 8).1)), (0, rf Λ 204), (1, .int (nI s)), (2, .int (ofN (yn Y) s 2))]) hC dX5_docks_69 (by decide) rfl ?_
          refine v_goto (tgt := 25) hC dX5_docks_70 (by decide) ?_
          refine v_sub (lv' := [(0, rf Λ 204), (1, .int (nI s)), (2, .int (ofN (yn Y) s 2)), (3, .int ((ndN (becomesN g s b) (L ||| (1 <<< ((nI b) &&& 31))) s 8).1))]) [1, 2, 3, 0] rfl ?_
          refine v_mem (C' := CC Λ X (yoS (ynS Y (becomesN g s b)) (L ||| (1 <<< ((nI b) &&& 31))))) rfl ?_
          exact ih25 k3 (becomesN g s b) (L ||| (1 <<< ((nI b) &&& 31))) _ (by have := un_lt hb hbt; omega) (by rw [← hg]; simp [dkN, dkN1, eb, nI_clamp (show b < 2 ^ 31 by omega), c28, c28b, c55, c55']) rfl (by omega)
  refine v_sub (lv' := [(0, rf Λ 204), (1, .int (nI s)), (2, .int (ofN (yn Y) s 2)), (3, .int ((ndN (layN (yn Y) s 1 0) 0 s 8).1))]) [2, 3, 1, 0] rfl ?_
  refine v_mem (C' := CC Λ X (yoS (ynS Y (layN (yn Y) s 1 0)) 0)) rfl ?_
  exact L25 _ 9 (layN (yn Y) s 1 0) 0 _ (by decide) rfl rfl (Nat.lt_succ_self _)
