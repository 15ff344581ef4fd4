/-! The law: least, mark -/
def lsI (X : XS) : Nat → Int32
  | 0 => 4096
  | k + 1 => if ¬ atI (fw (X.1 k)) 0 < 0 ∧ atI (fw (X.1 k)) 0 < lsI X k then atI (fw (X.1 k)) 0 else lsI X k
theorem ls_ok (X : XS) : ∀ k, ∃ v, v ≤ 4096 ∧ lsI X k = nI v ∧ Lst X k v
  | 0 => ⟨4096, Nat.le_refl _, rfl, lst_0 X⟩
  | k + 1 => by
    obtain ⟨v, v1, v2, v3⟩ := ls_ok X k
    unfold lsI
    rw [v2]
    rcases first_T (fw (X.1 k)) with ⟨a1, a2⟩ | ⟨y, y1, y2, y3, y4⟩
    · rw [a1, if_neg (fun z => z.1 (by decide))]
      exact ⟨v, v1, rfl, lst_ge v3 (fun x hx hb => by rw [a2 x hx] at hb; exact absurd hb (by decide))⟩
    · rw [y2]
      by_cases c : y < v
      · rw [if_pos ⟨nI_pos (by omega), (nI_ltI (by omega) (by omega)).mpr c⟩]
        exact ⟨y, by omega, rfl, lst_lt v3 y1 y3 y4 c⟩
      · rw [if_neg (fun z => c ((nI_ltI (by omega) (by omega)).mp z.2))]
        exact ⟨v, v1, rfl, lst_ge v3 (fun x hx hb => by have := y4 x hx hb; omega)⟩
theorem hd_L_least : yL_least.cls ≠ "java/lang/invoke/MethodHandle" ∧ yL_least.cls ≠ "java/lang/invoke/VarHandle" ∧ (parseMethodDescriptor yL_least.desc).map (fun d => d.parameters.length) = some 2 := by decide +kernel
set_option maxHeartbeats 400000 in
set_option maxRecDepth 100000 in
theorem c_L_least (Λ : Lk) (X : XS) (Y : YS) {m : Nat} (hm0 : xh X 0 = nI m) (hm : m ≤ 6) : Con Λ yL_least wsL_least { frames := 4, cells := 0, slots := 0, locals := 93 } [rf Λ 197, .int (nI m)] (CC Λ X Y) (some (.int (lsI X m))) (CC Λ X Y) := by
  refine con_start (cc := cL_least) (maxL := 5) (ret := (some .int)) (by decide) rfl (Nat.le_of_ble_eq_true rfl) ?_
  intro κ hC hR
  have hC : Ok Λ { frames := 4, cells := 0, slots := 0, locals := 93 } cL_least wsL_least RL 5 κ := hC
  refine v_args (lv' := [(0, rf Λ 197), (1, .int (nI m))]) rfl ?_
  refine v_sipush (v := 4096) hC dL_least_0 (by decide) ?_
  refine v_istore_n (lv' := [(2, .int 4096), (0, rf Λ 197), (1, .int (nI m))]) hC dL_least_3 (by decide) rfl ?_
  refine v_iconst (v := 0) hC dL_least_4 (by decide) ?_
  refine v_istore_n (lv' := [(3, .int 0), (2, .int 4096), (0, rf Λ 197), (1, .int (nI m))]) hC dL_least_5 (by decide) rfl ?_
  have L6 : ∀ (fu6 : Nat) (k : Nat), k ≤ m → m - k < fu6 → V Λ κ (CC Λ X Y) 6 [(3, .int (nI k)), (2, .int (lsI X k)), (0, rf Λ 197), (1, .int (nI m))] [] := by
    intro fu6
    induction fu6 with
    | zero => intro k hk hfu6; exact absurd hfu6 (Nat.not_lt_zero _)
    | succ fu6 ih6 =>
      intro k hk hfu6
      refine v_iload_n hC dL_least_6 0 rfl ?_
      refine v_iload_n hC dL_least_7 3 rfl ?_
      refine v_icmp_ge (tgt := 44) hC dL_least_8 (by decide) (fun c8 => ?_) (fun c8 => ?_)
      · have g8 : m ≤ k := (nI_leI (a := m) (b := k) (by omega) (by omega)).mp c8
        have ee : m = k := by omega
        subst ee
        refine v_iload_n hC dL_least_44 1 rfl ?_
        exact v_iret hC hR rfl rfl dL_least_45
      · have g8 : k < m := Nat.lt_of_not_le (fun z => c8 ((nI_leI (a := m) (b := k) (by omega) (by omega)).mpr z))
        refine v_aload_n hC dL_least_11 2 rfl ?_
        refine v_iload_n hC dL_least_12 0 rfl ?_
        refine v_bipush (v := 7) hC dL_least_13 (by decide) ?_
        refine v_callVr (v := .int (setC X m (nI k) 7)) (C2 := CC Λ X Y) (As := [.int (nI k), .int 7]) (rest := []) hC 2 197 (c_X4_set Λ X Y (s := nI k) (v := 7) hm0 hm) (nR_of (by decide)) (cc_197 Λ X Y) rfl gL_least_X4_set rfl rfl rfl hd_X4_set ⟨by decide, by decide⟩ rfl rfl (Nat.le_of_ble_eq_true rfl) dL_least_15 ?_
        refine v_topi (y := atI (fw (X.1 k)) 0) (by rw [set_T g8 hm, se_7]) ?_
        refine v_istore (lv' := [(4, .int (atI (fw (X.1 k)) 0)), (3, .int (nI k)), (2, .int (lsI X k)), (0, rf Λ 197), (1, .int (nI m))]) hC dL_least_18 (by decide) rfl ?_
        refine v_iload hC dL_least_20 0 rfl ?_
        refine v_if_lt (tgt := 36) hC dL_least_22 (by decide) (fun c22 => ?_) (fun c22 => ?_)
        · refine v_iload_n hC dL_least_36 2 rfl ?_
          refine v_topi (y := lsI X (k + 1)) (if_neg (fun z => z.1 c22)).symm ?_
          refine v_istore_n (lv' := [(2, .int (lsI X (k + 1))), (4, .int (atI (fw (X.1 k)) 0)), (3, .int (nI k)), (0, rf Λ 197), (1, .int (nI m))]) hC dL_least_37 (by decide) rfl ?_
          refine v_iinc (j := 2) (v := nI (k + 1)) (lv' := [(3, .int (nI (k + 1))), (2, .int (lsI X (k + 1))), (4, .int (atI (fw (X.1 k)) 0)), (0, rf Λ 197), (1, .int (nI m))]) hC dL_least_38 rfl (nI_add k 1) (by decide) rfl ?_
          refine v_goto (tgt := 6) hC dL_least_41 (by decide) ?_
          refine v_sub (lv' := [(3, .int (nI (k + 1))), (2, .int (lsI X (k + 1))), (0, rf Λ 197), (1, .int (nI m))]) [0, 1, 3, 4] rfl ?_
          exact ih6 (k + 1) (by omega) (by omega)
        · refine v_iload hC dL_least_25 0 rfl ?_
          refine v_iload_n hC dL_least_27 2 rfl ?_
          refine v_icmp_ge (tgt := 36) hC dL_least_28 (by decide) (fun c28 => ?_) (fun c28 => ?_)
          · refine v_iload_n hC dL_least_36 2 rfl ?_
            refine v_topi (y := lsI X (k + 1)) (if_neg (fun z => absurd z.2 (Int32.not_lt.mpr c28))).symm ?_
            refine v_istore_n (lv' := [(2, .int (lsI X (k + 1))), (4, .int (atI (fw (X.1 k)) 0)), (3, .int (nI k)), (0, rf Λ 197), (1, .int (nI m))]) hC dL_least_37 (by decide) rfl ?_
            refine v_iinc (j := 2) (v := nI (k + 1)) (lv' := [(3, .int (nI (k + 1))), (2, .int (lsI X (k + 1))), (4, .int (atI (fw (X.1 k)) 0)), (0, rf Λ 197), (1, .int (nI m))]) hC dL_least_38 rfl (nI_add k 1) (by decide) rfl ?_
            refine v_goto (tgt := 6) hC dL_least_41 (by decide) ?_
            refine v_sub (lv' := [(3, .int (nI (k + 1))), (2, .int (lsI X (k + 1))), (0, rf Λ 197), (1, .int (nI m))]) [0, 1, 3, 4] rfl ?_
            exact ih6 (k + 1) (by omega) (by omega)
          · refine v_iload hC dL_least_31 0 rfl ?_
            refine v_goto (tgt := 37) hC dL_least_33 (by decide) ?_
            refine v_topi (y := lsI X (k + 1)) (if_pos ⟨c22, Int32.not_le.mp c28⟩).symm ?_
            refine v_istore_n (lv' := [(2, .int (lsI X (k + 1))), (4, .int (atI (fw (X.1 k)) 0)), (3, .int (nI k)), (0, rf Λ 197), (1, .int (nI m))]) hC dL_least_37 (by decide) rfl ?_
            refine v_iinc (j := 2) (v := nI (k + 1)) (lv' := [(3, .int (nI (k + 1))), (2, .int (lsI X (k + 1))), (4, .int (atI (fw (X.1 k)) 0)), (0, rf Λ 197), (1, .int (nI m))]) hC dL_least_38 rfl (nI_add k 1) (by decide) rfl ?_
            refine v_goto (tgt := 6) hC dL_least_41 (by decide) ?_
            refine v_sub (lv' := [(3, .int (nI (k + 1))), (2, .int (lsI X (k + 1))), (0, rf Λ 197), (1, .int (nI m))]) [0, 1, 3, 4] rfl ?_
            exact ih6 (k + 1) (by omega) (by omega)
  exact L6 _ 0 (Nat.zero_le _) (Nat.lt_succ_self _)
theorem wd_L_mark_l9 : Cond.constantLong RL 9 (17) ∈ wsL_mark := by decide +kernel
theorem wd_L_mark_l11 : Cond.constantLong RL 11 (31) ∈ wsL_mark := by decide +kernel
theorem hd_L_mark : yL_mark.cls ≠ "java/lang/invoke/MethodHandle" ∧ yL_mark.cls ≠ "java/lang/invoke/VarHandle" ∧ (parseMethodDescriptor yL_mark.desc).map (fun d => d.parameters.length) = some 1 := by decide +kernel
set_option maxHeartbeats 400000 in
set_option maxRecDepth 100000 in
theorem c_L_mark (Λ : Lk) (X : XS) (Y : YS) {m t : Nat} (hm0 : xh X 0 = nI m) (hm : m ≤ 6) (hp0 : xz X = nI t) (ht4 : t ≤ 4) (hl0 : xl X = 0) : Con Λ yL_mark wsL_mark { frames := 5, cells := 0, slots := 0, locals := 113 } [rf Λ 197] (CC Λ X Y) (some (.long (markX X m t 0))) (CC Λ X Y) := by
  refine con_start (cc := cL_mark) (maxL := 5) (ret := (some .long)) (by decide) rfl (Nat.le_of_ble_eq_true rfl) ?_
  intro κ hC hR
  have hC : Ok Λ { frames := 5, cells := 0, slots := 0, locals := 113 } cL_mark wsL_mark RL 5 κ := hC
  refine v_args (lv' := [(0, rf Λ 197)]) rfl ?_
  have h0 : cntC X m t 0 0 = nI m := ct_0 X m t 0
  refine v_ldc2 (v := 17) hC dL_mark_0 wd_L_mark_l9 ?_
  refine v_lstore_n (lv' := [(1, .long 17), (0, rf Λ 197)]) hC dL_mark_3 (by decide) rfl ?_
  refine v_iconst (v := 0) hC dL_mark_4 (by decide) ?_
  refine v_istore_n (lv' := [(3, .int 0), (1, .long 17), (0, rf Λ 197)]) hC dL_mark_5 (by decide) rfl ?_
  have L6 : ∀ (fu6 : Nat) (q : Nat), q ≤ 9 → 9 - q < fu6 → V Λ κ (CC Λ X Y) 6 [(3, .int (nI q)), (1, .long (mkN (fun k => cntC X m t 0 (nI k)) q 17)), (0, rf Λ 197)] [] := by
    intro fu6
    induction fu6 with
    | zero => intro q hq hfu6; exact absurd hfu6 (Nat.not_lt_zero _)
    | succ fu6 ih6 =>
      intro q hq hfu6
      refine v_iload_n hC dL_mark_6 0 rfl ?_
      refine v_bipush (v := 9) hC dL_mark_7 (by decide) ?_
      refine v_icmp_ge (tgt := 31) hC dL_mark_9 (by decide) (fun c9 => ?_) (fun c9 => ?_)
      · have g9 : 9 ≤ q := (nI_leI (a := 9) (b := q) (by decide) (by omega)).mp c9
        have ee : 9 = q := by omega
        subst ee
        refine v_iconst (v := 0) hC dL_mark_31 (by decide) ?_
        refine v_istore_n (lv' := [(3, .int 0), (1, .long (mkN (fun k => cntC X m t 0 (nI k)) 9 17)), (0, rf Λ 197)]) hC dL_mark_32 (by decide) rfl ?_
        have L33 : ∀ (fu33 : Nat) (j : Nat), j ≤ m → m - j < fu33 → V Λ κ (CC Λ X Y) 33 [(3, .int (nI j)), (1, .long (mkA (mk1 X m) j (mkN (fun k => cntC X m t 0 (nI k)) 9 17))), (0, rf Λ 197)] [] := by
          intro fu33
          induction fu33 with
          | zero => intro j hj hfu33; exact absurd hfu33 (Nat.not_lt_zero _)
          | succ fu33 ih33 =>
            intro j hj hfu33
            refine v_iload_n hC dL_mark_33 0 rfl ?_
            refine v_aload_n hC dL_mark_34 2 rfl ?_
            refine v_iconst (v := 0) hC dL_mark_35 (by decide) ?_
            refine v_callVr (v := .int (cntC X m t 0 0)) (C2 := CC Λ X Y) (As := [.int 0]) (rest := [.int (nI j)]) hC 1 197 (c_X4_count Λ X Y (v := 0) hm0 hm hp0 ht4 hl0 (Nat.zero_le _)) (nR_of (by decide)) (cc_197 Λ X Y) rfl gL_mark_X4_count rfl rfl rfl hd_X4_count ⟨by decide, by decide⟩ rfl rfl (Nat.le_of_ble_eq_true rfl) dL_mark_36 ?_
            refine v_topi (y := nI m) h0 ?_
            refine v_icmp_ge (tgt := 156) hC dL_mark_39 (by decide) (fun c39 => ?_) (fun c39 => ?_)
            · have g39 : m ≤ j := (nI_leI (a := m) (b := j) (by omega) (by omega)).mp c39
              have ee : m = j := by omega
              subst ee
              refine v_lload_n hC dL_mark_156 1 rfl ?_
              exact v_lret hC hR rfl rfl dL_mark_157
            · have g39 : j < m := Nat.lt_of_not_le (fun z => c39 ((nI_leI (a := m) (b := j) (by omega) (by omega)).mpr z))
              refine v_iconst (v := 0) hC dL_mark_42 (by decide) ?_
              refine v_istore (lv' := [(4, .int 0), (3, .int (nI j)), (1, .long (mkA (mk1 X m) j (mkN (fun k => cntC X m t 0 (nI k)) 9 17))), (0, rf Λ 197)]) hC dL_mark_43 (by decide) rfl ?_
              have L45 : ∀ (fu45 : Nat) (q : Nat), q ≤ 10 → 10 - q < fu45 → V Λ κ (CC Λ X Y) 45 [(4, .int (nI q)), (3, .int (nI j)), (1, .long (mkN (fun k => setC X m (nI j) (nI k)) q (mkA (mk1 X m) j (mkN (fun k => cntC X m t 0 (nI k)) 9 17)))), (0, rf Λ 197)] [] := by
                intro fu45
                induction fu45 with
                | zero => intro q hq hfu45; exact absurd hfu45 (Nat.not_lt_zero _)
                | succ fu45 ih45 =>
                  intro q hq hfu45
                  refine v_iload hC dL_mark_45 0 rfl ?_
                  refine v_bipush (v := 10) hC dL_mark_47 (by decide) ?_
                  refine v_icmp_ge (tgt := 73) hC dL_mark_49 (by decide) (fun c49 => ?_) (fun c49 => ?_)
                  · have g49 : 10 ≤ q := (nI_leI (a := 10) (b := q) (by decide) (by omega)).mp c49
                    have ee : 10 = q := by omega
                    subst ee
                    refine v_iconst (v := 0) hC dL_mark_73 (by decide) ?_
                    refine v_istore (lv' := [(4, .int 0), (3, .int (nI j)), (1, .long (mkN (fun k => setC X m (nI j) (nI k)) 10 (mkA (mk1 X m) j (mkN (fun k => cntC X m t 0 (nI k)) 9 17)))), (0, rf Λ 197)]) hC dL_mark_74 (by decide) rfl ?_
                    have L76 : ∀ (fu76 : Nat) (q : Nat), q ≤ 8 → 8 - q < fu76 → V Λ κ (CC Λ X Y) 76 [(4, .int (nI q)), (3, .int (nI j)), (1, .long (mkN (fun b => boatC X m (nI j) (nI b) 0) q (mkN (fun k => setC X m (nI j) (nI k)) 10 (mkA (mk1 X m) j (mkN (fun k => cntC X m t 0 (nI k)) 9 17))))), (0, rf Λ 197)] [] := by
                      intro fu76
                      induction fu76 with
                      | zero => intro q hq hfu76; exact absurd hfu76 (Nat.not_lt_zero _)
                      | succ fu76 ih76 =>
                        intro q hq hfu76
                        refine v_iload hC dL_mark_76 0 rfl ?_
                        refine v_bipush (v := 8) hC dL_mark_78 (by decide) ?_
                        refine v_icmp_ge (tgt := 105) hC dL_mark_80 (by decide) (fun c80 => ?_) (fun c80 => ?_)
                        · have g80 : 8 ≤ q := (nI_leI (a := 8) (b := q) (by decide) (by omega)).mp c80
                          have ee : 8 = q := by omega
                          subst ee
                          refine v_iconst (v := 0) hC dL_mark_105 (by decide) ?_
                          refine v_istore (lv' := [(4, .int 0), (3, .int (nI j)), (1, .long (mkN (fun b => boatC X m (nI j) (nI b) 0) 8 (mkN (fun k => setC X m (nI j) (nI k)) 10 (mkA (mk1 X m) j (mkN (fun k => cntC X m t 0 (nI k)) 9 17))))), (0, rf Λ 197)]) hC dL_mark_106 (by decide) rfl ?_
                          have L108 : ∀ (fu108 : Nat) (q : Nat), q ≤ 32 → 32 - q < fu108 → V Λ κ (CC Λ X Y) 108 [(4, .int (nI (64 * q))), (3, .int (nI j)), (1, .long (mkR (fun i => rankC X m (nI j) (nI (64 * i))) (fun i => nextC X m (nI j) (nI (64 * i))) q (mkN (fun b => boatC X m (nI j) (nI b) 0) 8 (mkN (fun k => setC X m (nI j) (nI k)) 10 (mkA (mk1 X m) j (mkN (fun k => cntC X m t 0 (nI k)) 9 17)))))), (0, rf Λ 197)] [] := by
                            intro fu108
                            induction fu108 with
                            | zero => intro q hq hfu108; exact absurd hfu108 (Nat.not_lt_zero _)
                            | succ fu108 ih108 =>
                              intro q hq hfu108
                              refine v_iload hC dL_mark_108 0 rfl ?_
                              refine v_sipush (v := 2048) hC dL_mark_110 (by decide) ?_
                              refine v_icmp_ge (tgt := 150) hC dL_mark_113 (by decide) (fun c113 => ?_) (fun c113 => ?_)
                              · have g113 : 2048 ≤ (64 * q) := (nI_leI (a := 2048) (b := (64 * q)) (by decide) (by omega)).mp c113
                                have ee : 32 = q := by omega
                                subst ee
                                refine v_iinc (j := 1) (v := nI (j + 1)) (lv' := [(3, .int (nI (j + 1))), (4, .int (nI (64 * 32))), (1, .long (mkR (fun i => rankC X m (nI j) (nI (64 * i))) (fun i => nextC X m (nI j) (nI (64 * i))) 32 (mkN (fun b => boatC X m (nI j) (nI b) 0) 8 (mkN (fun k => setC X m (nI j) (nI k)) 10 (mkA (mk1 X m) j (mkN (fun k => cntC X m t 0 (nI k)) 9 17)))))), (0, rf Λ 197)]) hC dL_mark_150 rfl (nI_add j 1) (by decide) rfl ?_
                                refine v_goto (tgt := 33) hC dL_mark_153 (by decide) ?_
                                refine v_sub (lv' := [(3, .int (nI (j + 1))), (1, .long (mkR (fun i => rankC X m (nI j) (nI (64 * i))) (fun i => nextC X m (nI j) (nI (64 * i))) 32 (mkN (fun b => boatC X m (nI j) (nI b) 0) 8 (mkN (fun k => setC X m (nI j) (nI k)) 10 (mkA (mk1 X m) j (mkN (fun k => cntC X m t 0 (nI k)) 9 17)))))), (0, rf Λ 197)]) [0, 2, 3] rfl ?_
                                exact ih33 (j + 1) (by omega) (by omega)
                              · have g113 : (64 * q) < 2048 := Nat.lt_of_not_le (fun z => c113 ((nI_leI (a := 2048) (b := (64 * q)) (by decide) (by omega)).mpr z))
                                refine v_ldc2 (v := 31) hC dL_mark_116 wd_L_mark_l11 ?_
                                refine v_ldc2 (v := 31) hC dL_mark_119 wd_L_mark_l11 ?_
                                refine v_lload_n hC dL_mark_122 2 rfl ?_
                                refine v_lmul hC dL_mark_123 ?_
                                refine v_aload_n hC dL_mark_124 3 rfl ?_
                                refine v_iload_n hC dL_mark_125 1 rfl ?_
                                refine v_iload hC dL_mark_126 0 rfl ?_
                                refine v_callVr (v := .int (rankC X m (nI j) (nI (64 * q)))) (C2 := CC Λ X Y) (As := [.int (nI j), .int (nI (64 * q))]) (rest := [.long (31 * (mkR (fun i => rankC X m (nI j) (nI (64 * i))) (fun i => nextC X m (nI j) (nI (64 * i))) q (mkN (fun b => boatC X m (nI j) (nI b) 0) 8 (mkN (fun k => setC X m (nI j) (nI k)) 10 (mkA (mk1 X m) j (mkN (fun k => cntC X m t 0 (nI k)) 9 17)))))), .long 31]) hC 2 197 (c_X4_rank Λ X Y (s := nI j) (n := nI (64 * q)) hm0 hm) (nR_of (by decide)) (cc_197 Λ X Y) rfl gL_mark_X4_rank rfl rfl rfl hd_X4_rank ⟨by decide, by decide⟩ rfl rfl (Nat.le_of_ble_eq_true rfl) dL_mark_128 ?_
                                refine v_i2l hC dL_mark_131 ?_
                                refine v_ladd hC dL_mark_132 ?_
                                refine v_lmul hC dL_mark_133 ?_
                                refine v_aload_n hC dL_mark_134 3 rfl ?_
                                refine v_iload_n hC dL_mark_135 1 rfl ?_
                                refine v_iload hC dL_mark_136 0 rfl ?_
                                refine v_callVr (v := .int (nextC X m (nI j) (nI (64 * q)))) (C2 := CC Λ X Y) (As := [.int (nI j), .int (nI (64 * q))]) (rest := [.long (31 * ((31 * (mkR (fun i => rankC X m (nI j) (nI (64 * i))) (fun i => nextC X m (nI j) (nI (64 * i))) q (mkN (fun b => boatC X m (nI j) (nI b) 0) 8 (mkN (fun k => setC X m (nI j) (nI k)) 10 (mkA (mk1 X m) j (mkN (fun k => cntC X m t 0 (nI k)) 9 17)))))) + ((rankC X m (nI j) (nI (64 * q))).toInt64)))]) hC 2 197 (c_X4_next Λ X Y (s := nI j) (n := nI (64 * q)) hm0 hm) (nR_of (by decide)) (cc_197 Λ X Y) rfl gL_mark_X4_next rfl rfl rfl hd_X4_next ⟨by decide, by decide⟩ rfl rfl (Nat.le_of_ble_eq_true rfl) dL_mark_138 ?_
                                refine v_i2l hC dL_mark_141 ?_
                                refine v_ladd hC dL_mark_142 ?_
                                refine v_topl (y := mkR (fun i => rankC X m (nI j) (nI (64 * i))) (fun i => nextC X m (nI j) (nI (64 * i))) (q + 1) (mkN (fun b => boatC X m (nI j) (nI b) 0) 8 (mkN (fun k => setC X m (nI j) (nI k)) 10 (mkA (mk1 X m) j (mkN (fun k => cntC X m t 0 (nI k)) 9 17))))) rfl ?_
                                refine v_lstore_n (lv' := [(1, .long (mkR (fun i => rankC X m (nI j) (nI (64 * i))) (fun i => nextC X m (nI j) (nI (64 * i))) (q + 1) (mkN (fun b => boatC X m (nI j) (nI b) 0) 8 (mkN (fun k => setC X m (nI j) (nI k)) 10 (mkA (mk1 X m) j (mkN (fun k => cntC X m t 0 (nI k)) 9 17)))))), (4, .int (nI (64 * q))), (3, .int (nI j)), (0, rf Λ 197)]) hC dL_mark_143 (by decide) rfl ?_
                                refine v_iinc (j := 1) (v := nI (64 * q + 64)) (lv' := [(4, .int (nI (64 * q + 64))), (1, .long (mkR (fun i => rankC X m (nI j) (nI (64 * i))) (fun i => nextC X m (nI j) (nI (64 * i))) (q + 1) (mkN (fun b => boatC X m (nI j) (nI b) 0) 8 (mkN (fun k => setC X m (nI j) (nI k)) 10 (mkA (mk1 X m) j (mkN (fun k => cntC X m t 0 (nI k)) 9 17)))))), (3, .int (nI j)), (0, rf Λ 197)]) hC dL_mark_144 rfl (nI_add (64 * q) 64) (by decide) rfl ?_
                                refine v_goto (tgt := 108) hC dL_mark_147 (by decide) ?_
                                refine v_sub (lv' := [(4, .int (nI (64 * q + 64))), (3, .int (nI j)), (1, .long (mkR (fun i => rankC X m (nI j) (nI (64 * i))) (fun i => nextC X m (nI j) (nI (64 * i))) (q + 1) (mkN (fun b => boatC X m (nI j) (nI b) 0) 8 (mkN (fun k => setC X m (nI j) (nI k)) 10 (mkA (mk1 X m) j (mkN (fun k => cntC X m t 0 (nI k)) 9 17)))))), (0, rf Λ 197)]) [0, 2, 1, 3] rfl ?_
                                refine v_args (lv' := [(4, .int (nI (64 * (q + 1)))), (3, .int (nI j)), (1, .long (mkR (fun i => rankC X m (nI j) (nI (64 * i))) (fun i => nextC X m (nI j) (nI (64 * i))) (q + 1) (mkN (fun b => boatC X m (nI j) (nI b) 0) 8 (mkN (fun k => setC X m (nI j) (nI k)) 10 (mkA (mk1 X m) j (mkN (fun k => cntC X m t 0 (nI k)) 9 17)))))), (0, rf Λ 197)]) (by rw [show 64 * (q + 1) = 64 * q + 64 by omega]) ?_
                                exact ih108 (q + 1) (by omega) (by omega)
                          refine v_sub (lv' := [(4, .int 0), (3, .int (nI j)), (1, .long (mkN (fun b => boatC X m (nI j) (nI b) 0) 8 (mkN (fun k => setC X m (nI j) (nI k)) 10 (mkA (mk1 X m) j (mkN (fun k => cntC X m t 0 (nI k)) 9 17))))), (0, rf Λ 197)]) [0, 1, 2, 3] rfl ?_
                          exact L108 _ 0 (Nat.zero_le _) (Nat.lt_succ_self _)
                        · have g80 : q < 8 := Nat.lt_of_not_le (fun z => c80 ((nI_leI (a := 8) (b := q) (by decide) (by omega)).mpr z))
                          refine v_ldc2 (v := 31) hC dL_mark_83 wd_L_mark_l11 ?_
                          refine v_lload_n hC dL_mark_86 2 rfl ?_
                          refine v_lmul hC dL_mark_87 ?_
                          refine v_aload_n hC dL_mark_88 3 rfl ?_
                          refine v_iload_n hC dL_mark_89 1 rfl ?_
                          refine v_iload hC dL_mark_90 0 rfl ?_
                          refine v_iconst (v := 0) hC dL_mark_92 (by decide) ?_
                          refine v_callVr (v := .int (boatC X m (nI j) (nI q) 0)) (C2 := CC Λ X Y) (As := [.int (nI j), .int (nI q), .int 0]) (rest := [.long (31 * (mkN (fun b => boatC X m (nI j) (nI b) 0) q (mkN (fun k => setC X m (nI j) (nI k)) 10 (mkA (mk1 X m) j (mkN (fun k => cntC X m t 0 (nI k)) 9 17)))))]) hC 3 197 (c_X4_boat Λ X Y (s := nI j) (b := nI q) (v := 0) hm0 hm) (nR_of (by decide)) (cc_197 Λ X Y) rfl gL_mark_X4_boat rfl rfl rfl hd_X4_boat ⟨by decide, by decide⟩ rfl rfl (Nat.le_of_ble_eq_true rfl) dL_mark_93 ?_
                          refine v_i2l hC dL_mark_96 ?_
                          refine v_ladd hC dL_mark_97 ?_
                          refine v_topl (y := mkN (fun b => boatC X m (nI j) (nI b) 0) (q + 1) (mkN (fun k => setC X m (nI j) (nI k)) 10 (mkA (mk1 X m) j (mkN (fun k => cntC X m t 0 (nI k)) 9 17)))) rfl ?_
                          refine v_lstore_n (lv' := [(1, .long (mkN (fun b => boatC X m (nI j) (nI b) 0) (q + 1) (mkN (fun k => setC X m (nI j) (nI k)) 10 (mkA (mk1 X m) j (mkN (fun k => cntC X m t 0 (nI k)) 9 17))))), (4, .int (nI q)), (3, .int (nI j)), (0, rf Λ 197)]) hC dL_mark_98 (by decide) rfl ?_
                          refine v_iinc (j := 1) (v := nI (q + 1)) (lv' := [(4, .int (nI (q + 1))), (1, .long (mkN (fun b => boatC X m (nI j) (nI b) 0) (q + 1) (mkN (fun k => setC X m (nI j) (nI k)) 10 (mkA (mk1 X m) j (mkN (fun k => cntC X m t 0 (nI k)) 9 17))))), (3, .int (nI j)), (0, rf Λ 197)]) hC dL_mark_99 rfl (nI_add q 1) (by decide) rfl ?_
                          refine v_goto (tgt := 76) hC dL_mark_102 (by decide) ?_
                          refine v_sub (lv' := [(4, .int (nI (q + 1))), (3, .int (nI j)), (1, .long (mkN (fun b => boatC X m (nI j) (nI b) 0) (q + 1) (mkN (fun k => setC X m (nI j) (nI k)) 10 (mkA (mk1 X m) j (mkN (fun k => cntC X m t 0 (nI k)) 9 17))))), (0, rf Λ 197)]) [0, 2, 1, 3] rfl ?_
                          exact ih76 (q + 1) (by omega) (by omega)
                    refine v_sub (lv' := [(4, .int 0), (3, .int (nI j)), (1, .long (mkN (fun k => setC X m (nI j) (nI k)) 10 (mkA (mk1 X m) j (mkN (fun k => cntC X m t 0 (nI k)) 9 17)))), (0, rf Λ 197)]) [0, 1, 2, 3] rfl ?_
                    exact L76 _ 0 (Nat.zero_le _) (Nat.lt_succ_self _)
                  · have g49 : q < 10 := Nat.lt_of_not_le (fun z => c49 ((nI_leI (a := 10) (b := q) (by decide) (by omega)).mpr z))
                    refine v_ldc2 (v := 31) hC dL_mark_52 wd_L_mark_l11 ?_
                    refine v_lload_n hC dL_mark_55 2 rfl ?_
                    refine v_lmul hC dL_mark_56 ?_
                    refine v_aload_n hC dL_mark_57 3 rfl ?_
                    refine v_iload_n hC dL_mark_58 1 rfl ?_
                    refine v_iload hC dL_mark_59 0 rfl ?_
                    refine v_callVr (v := .int (setC X m (nI j) (nI q))) (C2 := CC Λ X Y) (As := [.int (nI j), .int (nI q)]) (rest := [.long (31 * (mkN (fun k => setC X m (nI j) (nI k)) q (mkA (mk1 X m) j (mkN (fun k => cntC X m t 0 (nI k)) 9 17))))]) hC 2 197 (c_X4_set Λ X Y (s := nI j) (v := nI q) hm0 hm) (nR_of (by decide)) (cc_197 Λ X Y) rfl gL_mark_X4_set rfl rfl rfl hd_X4_set ⟨by decide, by decide⟩ rfl rfl (Nat.le_of_ble_eq_true rfl) dL_mark_61 ?_
                    refine v_i2l hC dL_mark_64 ?_
                    refine v_ladd hC dL_mark_65 ?_
                    refine v_topl (y := mkN (fun k => setC X m (nI j) (nI k)) (q + 1) (mkA (mk1 X m) j (mkN (fun k => cntC X m t 0 (nI k)) 9 17))) rfl ?_
                    refine v_lstore_n (lv' := [(1, .long (mkN (fun k => setC X m (nI j) (nI k)) (q + 1) (mkA (mk1 X m) j (mkN (fun k => cntC X m t 0 (nI k)) 9 17)))), (4, .int (nI q)), (3, .int (nI j)), (0, rf Λ 197)]) hC dL_mark_66 (by decide) rfl ?_
                    refine v_iinc (j := 1) (v := nI (q + 1)) (lv' := [(4, .int (nI (q + 1))), (1, .long (mkN (fun k => setC X m (nI j) (nI k)) (q + 1) (mkA (mk1 X m) j (mkN (fun k => cntC X m t 0 (nI k)) 9 17)))), (3, .int (nI j)), (0, rf Λ 197)]) hC dL_mark_67 rfl (nI_add q 1) (by decide) rfl ?_
                    refine v_goto (tgt := 45) hC dL_mark_70 (by decide) ?_
                    refine v_sub (lv' := [(4, .int (nI (q + 1))), (3, .int (nI j)), (1, .long (mkN (fun k => setC X m (nI j) (nI k)) (q + 1) (mkA (mk1 X m) j (mkN (fun k => cntC X m t 0 (nI k)) 9 17)))), (0, rf Λ 197)]) [0, 2, 1, 3] rfl ?_
                    exact ih45 (q + 1) (by omega) (by omega)
              refine v_sub (lv' := [(4, .int 0), (3, .int (nI j)), (1, .long (mkA (mk1 X m) j (mkN (fun k => cntC X m t 0 (nI k)) 9 17))), (0, rf Λ 197)]) [0, 1, 2, 3] rfl ?_
              exact L45 _ 0 (Nat.zero_le _) (Nat.lt_succ_self _)
        refine v_sub (lv' := [(3, .int 0), (1, .long (mkN (fun k => cntC X m t 0 (nI k)) 9 17)), (0, rf Λ 197)]) [0, 1, 2] rfl ?_
        exact L33 _ 0 (Nat.zero_le _) (Nat.lt_succ_self _)
      · have g9 : q < 9 := Nat.lt_of_not_le (fun z => c9 ((nI_leI (a := 9) (b := q) (by decide) (by omega)).mpr z))
        refine v_ldc2 (v := 31) hC dL_mark_12 wd_L_mark_l11 ?_
        refine v_lload_n hC dL_mark_15 1 rfl ?_
        refine v_lmul hC dL_mark_16 ?_
        refine v_aload_n hC dL_mark_17 2 rfl ?_
        refine v_iload_n hC dL_mark_18 0 rfl ?_
        refine v_callVr (v := .int (cntC X m t 0 (nI q))) (C2 := CC Λ X Y) (As := [.int (nI q)]) (rest := [.long (31 * (mkN (fun k => cntC X m t 0 (nI k)) q 17))]) hC 1 197 (c_X4_count Λ X Y (v := nI q) hm0 hm hp0 ht4 hl0 (Nat.zero_le _)) (nR_of (by decide)) (cc_197 Λ X Y) rfl gL_mark_X4_count rfl rfl rfl hd_X4_count ⟨by decide, by decide⟩ rfl rfl (Nat.le_of_ble_eq_true rfl) dL_mark_19 ?_
        refine v_i2l hC dL_mark_22 ?_
        refine v_ladd hC dL_mark_23 ?_
        refine v_topl (y := mkN (fun k => cntC X m t 0 (nI k)) (q + 1) 17) rfl ?_
        refine v_lstore_n (lv' := [(1, .long (mkN (fun k => cntC X m t 0 (nI k)) (q + 1) 17)), (3, .int (nI q)), (0, rf Λ 197)]) hC dL_mark_24 (by decide) rfl ?_
        refine v_iinc (j := 1) (v := nI (q + 1)) (lv' := [(3, .int (nI (q + 1))), (1, .long (mkN (fun k => cntC X m t 0 (nI k)) (q + 1) 17)), (0, rf Λ 197)]) hC dL_mark_25 rfl (nI_add q 1) (by decide) rfl ?_
        refine v_goto (tgt := 6) hC dL_mark_28 (by decide) ?_
        refine v_sub (lv' := [(3, .int (nI (q + 1))), (1, .long (mkN (fun k => cntC X m t 0 (nI k)) (q + 1) 17)), (0, rf Λ 197)]) [0, 1, 2] rfl ?_
        exact ih6 (q + 1) (by omega) (by omega)
  refine v_sub (lv' := [(3, .int 0), (1, .long 17), (0, rf Λ 197)]) [0, 1, 2] rfl ?_
  exact L6 _ 0 (Nat.zero_le _) (Nat.lt_succ_self _)
