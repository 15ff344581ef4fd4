theorem hd_X5_goes : yX5_goes.cls = RX5 ∧ yX5_goes.cls ≠ "java/lang/invoke/MethodHandle" ∧ yX5_goes.cls ≠ "java/lang/invoke/VarHandle" ∧ (parseMethodDescriptor yX5_goes.desc).map (fun d => d.parameters.length) = some 3 := by decide +kernel
set_option maxHeartbeats 4000000 in
set_option maxRecDepth 100000 in
theorem c_X5_goes (Λ : Lk) (X : XS) (Y : YS) {s : Nat} {n : Nat} {comes : Bool} (hs : s < 6) (hn : n < 2048) : Con Λ yX5_goes wsX5_goes { frames := 6, cells := 0, slots := 0, locals := 136 } [rf Λ 204, .int (nI s), .int (nI n), .int (bI comes)] (CC Λ X Y) (some (.int (bI ((goesN (yn Y) s n comes).2)))) (CC Λ X (ynS Y ((goesN (yn Y) s n comes).1))) := by
  refine con_start (cc := cX5_goes) (maxL := 5) (ret := (some .boolean)) (by decide) rfl (Nat.le_of_ble_eq_true rfl) ?_
  intro κ hC hR
  have hC : Ok Λ { frames := 6, cells := 0, slots := 0, locals := 136 } cX5_goes wsX5_goes RX5 5 κ := hC
  refine v_args (lv' := [(0, rf Λ 204), (1, .int (nI s)), (2, .int (nI n)), (3, .int (bI comes))]) rfl ?_
  refine v_iload_n hC dX5_goes_0 2 rfl ?_
  refine v_sipush (v := 256) hC dX5_goes_1 (by decide) ?_
  refine v_idiv (x := nI n) (y := 256) hC dX5_goes_4 (by decide) ?_
  refine v_topi (y := nI (n / 256)) (pk_div (a := n) (d := 256) (by omega) (by decide) (by decide)) ?_
  refine v_istore (lv' := [(4, .int (nI (n / 256))), (0, rf Λ 204), (1, .int (nI s)), (2, .int (nI n)), (3, .int (bI comes))]) hC dX5_goes_5 (by decide) rfl ?_
  refine v_aload_n hC dX5_goes_7 1 rfl ?_
  refine v_iload_n hC dX5_goes_8 2 rfl ?_
  refine v_iload_n hC dX5_goes_9 3 rfl ?_
  refine v_iload_n hC dX5_goes_10 4 rfl ?_
  refine v_callVv (C2 := CC Λ X (ynS Y (putN (yn Y) s n comes))) (As := [.int (nI s), .int (nI n), .int (bI comes)]) (rest := []) hC 3 204 (c_X5_puts Λ X Y (s := s) (n := n) (is := comes) (by omega) (by omega)) (nR_of (by decide)) (cc_204 Λ X Y) rfl gX5_goes_X5_puts rfl rfl rfl hd_X5_puts ⟨by decide, by decide⟩ rfl rfl (Nat.le_of_ble_eq_true rfl) dX5_goes_11 ?_
  refine v_aload_n hC dX5_goes_14 1 rfl ?_
  refine v_iload_n hC dX5_goes_15 2 rfl ?_
  refine v_iload hC dX5_goes_16 0 rfl ?_
  refine v_callVr (v := .int (kindN (putN (yn Y) s n comes) s (n / 256))) (C2 := CC Λ X (ynS Y (putN (yn Y) s n comes))) (As := [.int (nI s), .int (nI (n / 256))]) (rest := []) hC 2 204 (c_X5_kindOf Λ X (ynS Y (putN (yn Y) s n comes)) (s := s) (b := n / 256) (by omega) (by omega)) (nR_of (by decide)) (cc_204 Λ X (ynS Y (putN (yn Y) s n comes))) rfl gX5_goes_X5_kindOf rfl rfl rfl hd_X5_kindOf ⟨by decide, by decide⟩ rfl rfl (Nat.le_of_ble_eq_true rfl) dX5_goes_18 ?_
  have J34 : V Λ κ (CC Λ X (ynS Y (goN1 (yn Y) s n comes))) 34 [(0, rf Λ 204), (1, .int (nI s)), (2, .int (nI n)), (3, .int (bI comes)), (4, .int (nI (n / 256)))] [] := by
    refine v_aload_n hC dX5_goes_34 0 rfl ?_
    refine v_iload_n hC dX5_goes_35 1 rfl ?_
    refine v_iload hC dX5_goes_36 4 rfl ?_
    refine v_callVr (v := .int (nI (manyN (goN1 (yn Y) s n comes) s (n / 256)))) (C2 := CC Λ X (ynS Y (goN1 (yn Y) s n comes))) (As := [.int (nI s), .int (nI (n / 256))]) (rest := []) hC 2 204 (c_X5_manyIn Λ X (ynS Y (goN1 (yn Y) s n comes)) (s := s) (b := n / 256) (by omega) (by omega)) (nR_of (by decide)) (cc_204 Λ X (ynS Y (goN1 (yn Y) s n comes))) rfl gX5_goes_X5_manyIn rfl rfl rfl hd_X5_manyIn ⟨by decide, by decide⟩ rfl rfl (Nat.le_of_ble_eq_true rfl) dX5_goes_38 ?_
    have hm38 := manyN_le (goN1 (yn Y) s n comes) s (n / 256)
    refine v_zne (a := manyN (goN1 (yn Y) s n comes) s (n / 256)) (tgt := 56) hC dX5_goes_41 (by decide) rfl (by omega) (fun c41 => ?_) (fun c41 => ?_)
    · skip
      refine v_aload_n hC dX5_goes_56 0 rfl ?_
      refine v_iload_n hC dX5_goes_57 1 rfl ?_
      refine v_iconst (v := 1) hC dX5_goes_58 (by decide) ?_
      have J105 : V Λ κ (CC Λ X (ynS Y (goN2 (goN1 (yn Y) s n comes) s (n / 256)))) 105 [(0, rf Λ 204), (1, .int (nI s)), (2, .int (nI n)), (3, .int (bI comes)), (4, .int (nI (n / 256)))] [] := by
        refine v_aload_n hC dX5_goes_105 0 rfl ?_
        refine v_iload_n hC dX5_goes_106 1 rfl ?_
        refine v_iload hC dX5_goes_107 4 rfl ?_
        refine v_callVr (v := .int (kindN (goN2 (goN1 (yn Y) s n comes) s (n / 256)) s (n / 256))) (C2 := CC Λ X (ynS Y (goN2 (goN1 (yn Y) s n comes) s (n / 256)))) (As := [.int (nI s), .int (nI (n / 256))]) (rest := []) hC 2 204 (c_X5_kindOf Λ X (ynS Y (goN2 (goN1 (yn Y) s n comes) s (n / 256))) (s := s) (b := n / 256) (by omega) (by omega)) (nR_of (by decide)) (cc_204 Λ X (ynS Y (goN2 (goN1 (yn Y) s n comes) s (n / 256)))) rfl gX5_goes_X5_kindOf rfl rfl rfl hd_X5_kindOf ⟨by decide, by decide⟩ rfl rfl (Nat.le_of_ble_eq_true rfl) dX5_goes_109 ?_
        refine v_aload_n hC dX5_goes_112 0 rfl ?_
        refine v_iload_n hC dX5_goes_113 1 rfl ?_
        refine v_iload hC dX5_goes_114 4 rfl ?_
        refine v_callVr (v := .int (nI (manyN (goN2 (goN1 (yn Y) s n comes) s (n / 256)) s (n / 256)))) (C2 := CC Λ X (ynS Y (goN2 (goN1 (yn Y) s n comes) s (n / 256)))) (As := [.int (nI s), .int (nI (n / 256))]) (rest := [.int (kindN (goN2 (goN1 (yn Y) s n comes) s (n / 256)) s (n / 256))]) hC 2 204 (c_X5_manyIn Λ X (ynS Y (goN2 (goN1 (yn Y) s n comes) s (n / 256))) (s := s) (b := n / 256) (by omega) (by omega)) (nR_of (by decide)) (cc_204 Λ X (ynS Y (goN2 (goN1 (yn Y) s n comes) s (n / 256)))) rfl gX5_goes_X5_manyIn rfl rfl rfl hd_X5_manyIn ⟨by decide, by decide⟩ rfl rfl (Nat.le_of_ble_eq_true rfl) dX5_goes_116 ?_
        have hm116 := manyN_le (goN2 (goN1 (yn Y) s n comes) s (n / 256)) s (n / 256)
        refine v_aload_n hC dX5_goes_119 0 rfl ?_
        refine v_iload_n hC dX5_goes_120 1 rfl ?_
        refine v_iload hC dX5_goes_121 4 rfl ?_
        refine v_callVr (v := .int (nI (runsN (goN2 (goN1 (yn Y) s n comes) s (n / 256)) s (n / 256)))) (C2 := CC Λ X (ynS Y (goN2 (goN1 (yn Y) s n comes) s (n / 256)))) (As := [.int (nI s), .int (nI (n / 256))]) (rest := [.int (nI (manyN (goN2 (goN1 (yn Y) s n comes) s (n / 256)) s (n / 256))), .int (kindN (goN2 (goN1 (yn Y) s n comes) s (n / 256)) s (n / 256))]) hC 2 204 (c_X5_runsIn Λ X (ynS Y (goN2 (goN1 (yn Y) s n comes) s (n / 256))) (s := s) (b := n / 256) (by omega) (by omega)) (nR_of (by decide)) (cc_204 Λ X (ynS Y (goN2 (goN1 (yn Y) s n comes) s (n / 256)))) rfl gX5_goes_X5_runsIn rfl rfl rfl hd_X5_runsIn ⟨by decide, by decide⟩ rfl rfl (Nat.le_of_ble_eq_true rfl) dX5_goes_123 ?_
        have hm123 := runsN_le (goN2 (goN1 (yn Y) s n comes) s (n / 256)) s (n / 256)
        refine v_callSr (v := .int (bI (holdsI (kindN (goN2 (goN1 (yn Y) s n comes) s (n / 256)) s (n / 256)) (nI (manyN (goN2 (goN1 (yn Y) s n comes) s (n / 256)) s (n / 256))) (nI (runsN (goN2 (goN1 (yn Y) s n comes) s (n / 256)) s (n / 256)))))) (C2 := CC Λ X (ynS Y (goN2 (goN1 (yn Y) s n comes) s (n / 256)))) (As := [.int (kindN (goN2 (goN1 (yn Y) s n comes) s (n / 256)) s (n / 256)), .int (nI (manyN (goN2 (goN1 (yn Y) s n comes) s (n / 256)) s (n / 256))), .int (nI (runsN (goN2 (goN1 (yn Y) s n comes) s (n / 256)) s (n / 256)))]) (rest := []) hC 3 (c_X5_holds Λ X (ynS Y (goN2 (goN1 (yn Y) s n comes) s (n / 256))) (k := kindN (goN2 (goN1 (yn Y) s n comes) s (n / 256)) s (n / 256)) (m := nI (manyN (goN2 (goN1 (yn Y) s n comes) s (n / 256)) s (n / 256))) (r := nI (runsN (goN2 (goN1 (yn Y) s n comes) s (n / 256)) s (n / 256)))) gX5_goes_X5_holds rfl rfl rfl hd_X5_holds ⟨by decide, by decide⟩ rfl rfl (Nat.le_of_ble_eq_true rfl) dX5_goes_126 ?_
        have e : goesN (yn Y) s n comes = ((goN2 (goN1 (yn Y) s n comes) s (n / 256)), holdsI (kindN (goN2 (goN1 (yn Y) s n comes) s (n / 256)) s (n / 256)) (nI (manyN (goN2 (goN1 (yn Y) s n comes) s (n / 256)) s (n / 256))) (nI (runsN (goN2 (goN1 (yn Y) s n comes) s (n / 256)) s (n / 256)))) := by unfold goesN; rw [if_neg c41]
        exact v_zretG hC hR e rfl dX5_goes_129
      refine v_callVr (v := .int (ofN (goN1 (yn Y) s n comes) s 1)) (C2 := CC Λ X (ynS Y (goN1 (yn Y) s n comes))) (As := [.int (nI s), .int 1]) (rest := []) hC 2 204 (c_X5_of Λ X (ynS Y (goN1 (yn Y) s n comes)) (s := s) (w := 1) (by omega) (by omega)) (nR_of (by decide)) (cc_204 Λ X (ynS Y (goN1 (yn Y) s n comes))) rfl gX5_goes_X5_of rfl rfl rfl hd_X5_of ⟨by decide, by decide⟩ rfl rfl (Nat.le_of_ble_eq_true rfl) dX5_goes_59 ?_
      refine v_if_ne (tgt := 105) hC dX5_goes_62 (by decide) (fun c62 => ?_) (fun c62 => ?_)
      · skip
        refine v_sub (lv' := [(0, rf Λ 204), (1, .int (nI s)), (2, .int (nI n)), (3, .int (bI comes)), (4, .int (nI (n / 256)))]) [0, 1, 2, 3, 4] rfl ?_
        refine v_mem (C' := CC Λ X (ynS Y (goN2 (goN1 (yn Y) s n comes) s (n / 256)))) (mem_n (if_neg (fun h => c62 h.1)).symm) ?_
        exact J105
      · skip
        refine v_aload_n hC dX5_goes_65 0 rfl ?_
        refine v_iload_n hC dX5_goes_66 1 rfl ?_
        refine v_iload hC dX5_goes_67 4 rfl ?_
        refine v_callVr (v := .int (bestN (goN1 (yn Y) s n comes) s (n / 256))) (C2 := CC Λ X (ynS Y (goN1 (yn Y) s n comes))) (As := [.int (nI s), .int (nI (n / 256))]) (rest := []) hC 2 204 (c_X5_bestOf Λ X (ynS Y (goN1 (yn Y) s n comes)) (s := s) (b := n / 256) (by omega) (by omega)) (nR_of (by decide)) (cc_204 Λ X (ynS Y (goN1 (yn Y) s n comes))) rfl gX5_goes_X5_bestOf rfl rfl rfl hd_X5_bestOf ⟨by decide, by decide⟩ rfl rfl (Nat.le_of_ble_eq_true rfl) dX5_goes_69 ?_
        refine v_aload_n hC dX5_goes_72 0 rfl ?_
        refine v_iload_n hC dX5_goes_73 1 rfl ?_
        refine v_iload hC dX5_goes_74 4 rfl ?_
        refine v_callVr (v := .int (kindN (goN1 (yn Y) s n comes) s (n / 256))) (C2 := CC Λ X (ynS Y (goN1 (yn Y) s n comes))) (As := [.int (nI s), .int (nI (n / 256))]) (rest := [.int (bestN (goN1 (yn Y) s n comes) s (n / 256))]) hC 2 204 (c_X5_kindOf Λ X (ynS Y (goN1 (yn Y) s n comes)) (s := s) (b := n / 256) (by omega) (by omega)) (nR_of (by decide)) (cc_204 Λ X (ynS Y (goN1 (yn Y) s n comes))) rfl gX5_goes_X5_kindOf rfl rfl rfl hd_X5_kindOf ⟨by decide, by decide⟩ rfl rfl (Nat.le_of_ble_eq_true rfl) dX5_goes_76 ?_
        refine v_icmp_eq (x := bestN (goN1 (yn Y) s n comes) s (n / 256)) (y := kindN (goN1 (yn Y) s n comes) s (n / 256)) (tgt := 105) hC dX5_goes_79 (by decide) (fun c79 => ?_) (fun c79 => ?_)
        · skip
          refine v_sub (lv' := [(0, rf Λ 204), (1, .int (nI s)), (2, .int (nI n)), (3, .int (bI comes)), (4, .int (nI (n / 256)))]) [0, 1, 2, 3, 4] rfl ?_
          refine v_mem (C' := CC Λ X (ynS Y (goN2 (goN1 (yn Y) s n comes) s (n / 256)))) (mem_n (if_neg (fun h => h.2.1 c79)).symm) ?_
          exact J105
        · skip
          refine v_aload_n hC dX5_goes_82 0 rfl ?_
          refine v_iload_n hC dX5_goes_83 1 rfl ?_
          refine v_iconst (v := 0) hC dX5_goes_84 (by decide) ?_
          refine v_callVr (v := .int (ofN (goN1 (yn Y) s n comes) s 0)) (C2 := CC Λ X (ynS Y (goN1 (yn Y) s n comes))) (As := [.int (nI s), .int 0]) (rest := []) hC 2 204 (c_X5_of Λ X (ynS Y (goN1 (yn Y) s n comes)) (s := s) (w := 0) (by omega) (by omega)) (nR_of (by decide)) (cc_204 Λ X (ynS Y (goN1 (yn Y) s n comes))) rfl gX5_goes_X5_of rfl rfl rfl hd_X5_of ⟨by decide, by decide⟩ rfl rfl (Nat.le_of_ble_eq_true rfl) dX5_goes_85 ?_
          refine v_aload_n hC dX5_goes_88 0 rfl ?_
          refine v_iload_n hC dX5_goes_89 1 rfl ?_
          refine v_iload hC dX5_goes_90 4 rfl ?_
          refine v_callVr (v := .int (tollN (goN1 (yn Y) s n comes) s (n / 256))) (C2 := CC Λ X (ynS Y (goN1 (yn Y) s n comes))) (As := [.int (nI s), .int (nI (n / 256))]) (rest := [.int (ofN (goN1 (yn Y) s n comes) s 0)]) hC 2 204 (c_X5_tollOf Λ X (ynS Y (goN1 (yn Y) s n comes)) (s := s) (b := n / 256) (by omega) (by omega)) (nR_of (by decide)) (cc_204 Λ X (ynS Y (goN1 (yn Y) s n comes))) rfl gX5_goes_X5_tollOf rfl rfl rfl hd_X5_tollOf ⟨by decide, by decide⟩ rfl rfl (Nat.le_of_ble_eq_true rfl) dX5_goes_92 ?_
          refine v_icmp_lt (x := ofN (goN1 (yn Y) s n comes) s 0) (y := tollN (goN1 (yn Y) s n comes) s (n / 256)) (tgt := 105) hC dX5_goes_95 (by decide) (fun c95 => ?_) (fun c95 => ?_)
          · have c95' := Int32.not_le.mpr c95
            refine v_sub (lv' := [(0, rf Λ 204), (1, .int (nI s)), (2, .int (nI n)), (3, .int (bI comes)), (4, .int (nI (n / 256)))]) [0, 1, 2, 3, 4] rfl ?_
            refine v_mem (C' := CC Λ X (ynS Y (goN2 (goN1 (yn Y) s n comes) s (n / 256)))) (mem_n (if_neg (fun h => c95' h.2.2)).symm) ?_
            exact J105
          · have c95' := Int32.not_lt.mp c95
            refine v_aload_n hC dX5_goes_98 0 rfl ?_
            refine v_iload_n hC dX5_goes_99 1 rfl ?_
            refine v_iload hC dX5_goes_100 4 rfl ?_
            refine v_callVv (C2 := CC Λ X (ynS (ynS Y (goN1 (yn Y) s n comes)) (becomesN (goN1 (yn Y) s n comes) s (n / 256)))) (As := [.int (nI s), .int (nI (n / 256))]) (rest := []) hC 2 204 (c_X5_becomes Λ X (ynS Y (goN1 (yn Y) s n comes)) (s := s) (b := n / 256) (by omega) (by omega)) (nR_of (by decide)) (cc_204 Λ X (ynS Y (goN1 (yn Y) s n comes))) rfl gX5_goes_X5_becomes rfl rfl rfl hd_X5_becomes ⟨by decide, by decide⟩ rfl rfl (Nat.le_of_ble_eq_true rfl) dX5_goes_102 ?_
            refine v_sub (lv' := [(0, rf Λ 204), (1, .int (nI s)), (2, .int (nI n)), (3, .int (bI comes)), (4, .int (nI (n / 256)))]) [0, 1, 2, 3, 4] rfl ?_
            refine v_mem (C' := CC Λ X (ynS Y (goN2 (goN1 (yn Y) s n comes) s (n / 256)))) (mem_n (if_pos ⟨c62, c79, c95'⟩).symm) ?_
            exact J105
    · skip
      refine v_aload_n hC dX5_goes_44 0 rfl ?_
      refine v_iload_n hC dX5_goes_45 1 rfl ?_
      refine v_iconst (v := 3) hC dX5_goes_46 (by decide) ?_
      refine v_iload hC dX5_goes_47 4 rfl ?_
      refine v_iadd (x := 3) (y := nI (n / 256)) hC dX5_goes_49 ?_
      refine v_topi (y := nI (3 + (n / 256))) (nI_add 3 (n / 256)) ?_
      refine v_iconst (v := 0) hC dX5_goes_50 (by decide) ?_
      refine v_callVv (C2 := CC Λ X (ynS (ynS Y (goN1 (yn Y) s n comes)) (layN (goN1 (yn Y) s n comes) s (3 + (n / 256)) 0))) (As := [.int (nI s), .int (nI (3 + (n / 256))), .int 0]) (rest := []) hC 3 204 (c_X5_lays Λ X (ynS Y (goN1 (yn Y) s n comes)) (s := s) (w := 3 + (n / 256)) (v := 0) (by omega) (by omega)) (nR_of (by decide)) (cc_204 Λ X (ynS Y (goN1 (yn Y) s n comes))) rfl gX5_goes_X5_lays rfl rfl rfl hd_X5_lays ⟨by decide, by decide⟩ rfl rfl (Nat.le_of_ble_eq_true rfl) dX5_goes_51 ?_
      refine v_iconst (v := 1) hC dX5_goes_54 (by decide) ?_
      have e : goesN (yn Y) s n comes = ((layN (goN1 (yn Y) s n comes) s (3 + (n / 256)) 0), true) := by unfold goesN; rw [if_pos c41]
      exact v_zretG hC hR e rfl dX5_goes_55
  refine v_if_ge (tgt := 34) hC dX5_goes_21 (by decide) (fun c21 => ?_) (fun c21 => ?_)
  · have c21' := Int32.not_lt.mpr c21
    refine v_sub (lv' := [(0, rf Λ 204), (1, .int (nI s)), (2, .int (nI n)), (3, .int (bI comes)), (4, .int (nI (n / 256)))]) [1, 2, 3, 4, 0] rfl ?_
    refine v_mem (C' := CC Λ X (ynS Y (goN1 (yn Y) s n comes))) (mem_n (if_neg c21').symm) ?_
    exact J34
  · have c21' := Int32.not_le.mp c21
    refine v_aload_n hC dX5_goes_24 1 rfl ?_
    refine v_iload_n hC dX5_goes_25 2 rfl ?_
    refine v_iconst (v := 3) hC dX5_goes_26 (by decide) ?_
    refine v_iload hC dX5_goes_27 0 rfl ?_
    refine v_iadd (x := 3) (y := nI (n / 256)) hC dX5_goes_29 ?_
    refine v_topi (y := nI (3 + (n / 256))) (nI_add 3 (n / 256)) ?_
    refine v_iconst (v := 1) hC dX5_goes_30 (by decide) ?_
    refine v_callVv (C2 := CC Λ X (ynS (ynS Y (putN (yn Y) s n comes)) (layN (putN (yn Y) s n comes) s (3 + (n / 256)) 1))) (As := [.int (nI s), .int (nI (3 + (n / 256))), .int 1]) (rest := []) hC 3 204 (c_X5_lays Λ X (ynS Y (putN (yn Y) s n comes)) (s := s) (w := 3 + (n / 256)) (v := 1) (by omega) (by omega)) (nR_of (by decide)) (cc_204 Λ X (ynS Y (putN (yn Y) s n comes))) rfl gX5_goes_X5_lays rfl rfl rfl hd_X5_lays ⟨by decide, by decide⟩ rfl rfl (Nat.le_of_ble_eq_true rfl) dX5_goes_31 ?_
    refine v_sub (lv' := [(0, rf Λ 204), (1, .int (nI s)), (2, .int (nI n)), (3, .int (bI comes)), (4, .int (nI (n / 256)))]) [1, 2, 3, 4, 0] rfl ?_
    refine v_mem (C' := CC Λ X (ynS Y (goN1 (yn Y) s n comes))) (mem_n (if_pos c21').symm) ?_
    exact J34
