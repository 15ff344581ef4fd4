theorem in_X5_readRanges_X5 : ∀ w ∈ wsX50, w ∈ wsX5_readRanges := by decide +kernel
theorem fl_X5_readRanges_145 : Cond.fieldLink RX5 145 "BoatSetsModel" "readMany" "I" ∈ wsX5_readRanges := by decide +kernel
theorem fl_X5_readRanges_7 : Cond.fieldLink RX5 7 "BoatSetsModel" "now" "[I" ∈ wsX5_readRanges := by decide +kernel
theorem fl_X5_readRanges_19 : Cond.fieldLink RX5 19 "BoatSetsModel" "trial" "[I" ∈ wsX5_readRanges := by decide +kernel
theorem fl_X5_readRanges_28 : Cond.fieldLink RX5 28 "BoatSetsModel" "numbers" "[I" ∈ wsX5_readRanges := by decide +kernel
theorem hd_X5_readRanges : yX5_readRanges.cls = RX5 ∧ yX5_readRanges.cls ≠ "java/lang/invoke/MethodHandle" ∧ yX5_readRanges.cls ≠ "java/lang/invoke/VarHandle" ∧ (parseMethodDescriptor yX5_readRanges.desc).map (fun d => d.parameters.length) = some 1 := by decide +kernel
set_option maxHeartbeats 400000 in
set_option maxRecDepth 100000 in
theorem c_X5_readRanges (Λ : Lk) (X : XS) (Y : YS) {s : Int32} {ns : Nat} {ty : Nat} {p : Nat} (h0 : yn Y 0 = nI ns) (hns : ns ≤ 6) (hz : yz Y = nI p) (hp : p ≤ 4) (hy : yy Y = nI ty) (hty : ty ≤ 60) : Con Λ yX5_readRanges wsX5_readRanges { frames := 8, cells := 0, slots := 0, locals := 186 } [rf Λ 204, .int s] (CC Λ X Y) (some (.int ((rrP Y p ty s).1))) (CC Λ X ((rrP Y p ty s).2)) := by
  refine con_start (cc := cX5_readRanges) (maxL := 6) (ret := (some .int)) (by decide) rfl (Nat.le_of_ble_eq_true rfl) ?_
  intro κ hC hR
  have hC : Ok Λ { frames := 8, cells := 0, slots := 0, locals := 186 } cX5_readRanges wsX5_readRanges RX5 6 κ := hC
  refine v_args (lv' := [(0, rf Λ 204), (1, .int s)]) rfl ?_
  refine v_aload_n hC dX5_readRanges_0 0 rfl ?_
  refine v_iload_n hC dX5_readRanges_1 1 rfl ?_
  refine v_callVr (v := .int (bI (isSBm (yn Y) s))) (C2 := CC Λ X Y) (As := [.int s]) (rest := []) hC 1 204 (c_X5_isSet Λ X Y (s := s)) (nR_of (by decide)) (cc_204 Λ X Y) rfl gX5_readRanges_X5_isSet rfl rfl rfl hd_X5_isSet ⟨by decide, by decide⟩ rfl rfl (Nat.le_of_ble_eq_true rfl) dX5_readRanges_2 ?_
  refine v_bne (b := isSBm (yn Y) s) (tgt := 10) hC dX5_readRanges_5 (by decide) (fun c5 => ?_) (fun c5 => ?_)
  · skip
    obtain ⟨k, hk, rfl⟩ := isS_of h0 hns c5
    have hik : ix (nI k) = k := ix_nI (by omega)
    refine v_aload_n hC dX5_readRanges_10 0 rfl ?_
    refine v_callVr (v := .int ((foL (signM (yx Y) ty) ty 61 0 0 (yu Y)).1)) (C2 := CC Λ X (yaS (ymS (yuS Y (foL (signM (yx Y) ty) ty 61 0 0 (yu Y)).2.2.2) (nI (foL (signM (yx Y) ty) ty 61 0 0 (yu Y)).2.2.1)) (nI (foL (signM (yx Y) ty) ty 61 0 0 (yu Y)).2.1))) (As := []) (rest := []) hC 0 204 (c_X5_faultOf Λ X Y hy hty) (nR_of (by decide)) (cc_204 Λ X Y) rfl gX5_readRanges_X5_faultOf rfl rfl rfl hd_X5_faultOf ⟨by decide, by decide⟩ rfl rfl (Nat.le_of_ble_eq_true rfl) dX5_readRanges_11 ?_
    have hfo11 := foL_m (t := (yx Y)) (ty := ty) (u := (yu Y)) (by omega)
    generalize hF : foL (signM (yx Y) ty) ty 61 0 0 (yu Y) = F at hfo11 ⊢
    refine v_mem (C' := CC Λ X (rrY Y F)) rfl ?_
    refine v_istore_n (lv' := [(2, .int F.1), (0, rf Λ 204), (1, .int (nI k))]) hC dX5_readRanges_14 (by decide) rfl ?_
    refine v_iload_n hC dX5_readRanges_15 0 rfl ?_
    refine v_bipush (v := (-5)) hC dX5_readRanges_16 (by decide) ?_
    refine v_icmp_eq (x := F.1) (y := (-5)) (tgt := 26) hC dX5_readRanges_18 (by decide) (fun c18 => ?_) (fun c18 => ?_)
    · skip
      refine v_iconst (v := 0) hC dX5_readRanges_26 (by decide) ?_
      refine v_istore_n (lv' := [(3, .int 0), (2, .int F.1), (0, rf Λ 204), (1, .int (nI k))]) hC dX5_readRanges_27 (by decide) rfl ?_
      have L28 : ∀ (fu28 : Nat) (j : Nat) (x3 : Int32), j ≤ F.2.2.1 → okA F.2.2.2 j = true → x3 = nI j → F.2.2.1 - j < fu28 → V Λ κ (CC Λ X (rrY Y F)) 28 [(0, rf Λ 204), (1, .int (nI k)), (3, .int x3)] [] := by
        intro fu28
        induction fu28 with
        | zero => intro j x3 hj hu e3 hfu28; exact absurd hfu28 (Nat.not_lt_zero _)
        | succ fu28 ih28 =>
          intro j x3 hj hu e3 hfu28
          subst e3
          refine v_iload_n hC dX5_readRanges_28 2 rfl ?_
          refine v_aload_n hC dX5_readRanges_29 0 rfl ?_
          refine v_get (T := TX5) (N := 13) (v := .int (nI F.2.2.1)) hC 204 (nR_of (by decide)) (cc_204 Λ X (rrY Y F)) in_X5_readRanges_X5 rfl 11 (by decide) fl_X5_readRanges_145 rfl dX5_readRanges_30 ?_
          refine v_nge (a := j) (b := F.2.2.1) (tgt := 86) hC dX5_readRanges_33 (by decide) rfl rfl (by omega) (by omega) (fun c33 => ?_) (fun c33 => ?_)
          · have c33' := Nat.not_lt.mpr c33
            have hok : okA F.2.2.2 F.2.2.1 = true := by rw [show F.2.2.1 = j by omega]; exact hu
            refine v_aload_n hC dX5_readRanges_86 0 rfl ?_
            refine v_get (T := TX5) (N := 13) (v := rf Λ 205) hC 204 (nR_of (by decide)) (cc_204 Λ X (rrY Y F)) in_X5_readRanges_X5 rfl 0 (by decide) fl_X5_readRanges_7 rfl dX5_readRanges_87 ?_
            refine v_iconst (v := 0) hC dX5_readRanges_90 (by decide) ?_
            refine v_aload_n hC dX5_readRanges_91 0 rfl ?_
            refine v_get (T := TX5) (N := 13) (v := rf Λ 208) hC 204 (nR_of (by decide)) (cc_204 Λ X (rrY Y F)) in_X5_readRanges_X5 rfl 5 (by decide) fl_X5_readRanges_19 rfl dX5_readRanges_92 ?_
            refine v_iconst (v := 0) hC dX5_readRanges_95 (by decide) ?_
            refine v_callSv (As := [rf Λ 205, .int 0, rf Λ 208, .int 0]) (rest := []) hC 4 (c_X5_copies Λ (CC Λ X (rrY Y F)) (a := 0) (c := 0) (f := (yn Y)) (g := (yt Y)) (cc_205 Λ X (rrY Y F)) (cc_208 Λ X (rrY Y F)) (by decide) (nR_of (by decide)) (nR_of (by decide)) (by omega) (by omega) (by decide) (by decide)) gX5_readRanges_X5_copies rfl rfl rfl hd_X5_copies ⟨by decide, by decide⟩ rfl rfl (Nat.le_of_ble_eq_true rfl) dX5_readRanges_96 ?_
            refine v_mem (cs_yt Λ X (rrY Y F) (cpyK (yn Y) (yt Y) 0 0 451)) ?_
            refine v_congr (C' := CC Λ X (ytS (rrY Y F) (yn Y))) (cg_y (Λ := Λ) (X := X) (Y := (rrY Y F)) (f := (cpyK (yn Y) (yt Y) 0 0 451)) (f' := (yn Y)) cp_0).2.1 ?_
            refine v_iconst (v := 0) hC dX5_readRanges_99 (by decide) ?_
            refine v_istore_n (lv' := [(3, .int 0), (0, rf Λ 204), (1, .int (nI k))]) hC dX5_readRanges_100 (by decide) rfl ?_
            refine v_iconst (v := 0) hC dX5_readRanges_101 (by decide) ?_
            refine v_istore (lv' := [(4, .int 0), (3, .int 0), (0, rf Λ 204), (1, .int (nI k))]) hC dX5_readRanges_102 (by decide) rfl ?_
            have L104 : ∀ (fu104 : Nat) (i : Nat) (v : Int32) (g : Nat → Int32) (x4 : Int32), i ≤ F.2.2.1 → raL k F.2.2.2 (F.2.2.1 - i) i v g = raL k F.2.2.2 F.2.2.1 0 0 (yn Y) → x4 = nI i → F.2.2.1 - i < fu104 → V Λ κ (CC Λ X (ynS (ytS (rrY Y F) (yn Y)) g)) 104 [(0, rf Λ 204), (1, .int (nI k)), (3, .int v), (4, .int x4)] [] := by
              intro fu104
              induction fu104 with
              | zero => intro i v g x4 hi hr e4 hfu104; exact absurd hfu104 (Nat.not_lt_zero _)
              | succ fu104 ih104 =>
                intro i v g x4 hi hr e4 hfu104
                subst e4
                refine v_iload hC dX5_readRanges_104 3 rfl ?_
                refine v_aload_n hC dX5_readRanges_106 0 rfl ?_
                refine v_get (T := TX5) (N := 13) (v := .int (nI F.2.2.1)) hC 204 (nR_of (by decide)) (cc_204 Λ X (ynS (ytS (rrY Y F) (yn Y)) g)) in_X5_readRanges_X5 rfl 11 (by decide) fl_X5_readRanges_145 rfl dX5_readRanges_107 ?_
                refine v_nge (a := i) (b := F.2.2.1) (tgt := 165) hC dX5_readRanges_110 (by decide) rfl rfl (by omega) (by omega) (fun c110 => ?_) (fun c110 => ?_)
                · have c110' := Nat.not_lt.mpr c110
                  refine v_aload_n hC dX5_readRanges_165 0 rfl ?_
                  refine v_iload_n hC dX5_readRanges_166 2 rfl ?_
                  refine v_callVr (v := .int ((endsM (ynS (ytS (rrY Y F) (yn Y)) g) p v).1)) (C2 := CC Λ X ((endsM (ynS (ytS (rrY Y F) (yn Y)) g) p v).2)) (As := [.int v]) (rest := []) hC 1 204 (c_X5_ends Λ X (ynS (ytS (rrY Y F) (yn Y)) g) (m := v) hz (by omega)) (nR_of (by decide)) (cc_204 Λ X (ynS (ytS (rrY Y F) (yn Y)) g)) rfl gX5_readRanges_X5_ends rfl rfl rfl hd_X5_ends ⟨by decide, by decide⟩ rfl rfl (Nat.le_of_ble_eq_true rfl) dX5_readRanges_167 ?_
                  have e : rrP Y p ty (nI k) = ((endsM (ynS (ytS (rrY Y F) (yn Y)) g) p v).1, (endsM (ynS (ytS (rrY Y F) (yn Y)) g) p v).2) := by rw [rrP, if_neg (by rw [c5]; decide), hik, hF, rrQ, if_neg (fun h => h c18), if_neg (by rw [hok]; decide), ← hr, show F.2.2.1 - i = 0 by omega, raL]
                  exact v_iretP hC hR e dX5_readRanges_170
                · have c110' := Nat.not_le.mpr c110
                  refine v_iload_n hC dX5_readRanges_113 2 rfl ?_
                  refine v_if_lt (tgt := 165) hC dX5_readRanges_114 (by decide) (fun c114 => ?_) (fun c114 => ?_)
                  · have c114' := Int32.not_le.mpr c114
                    refine v_aload_n hC dX5_readRanges_165 0 rfl ?_
                    refine v_iload_n hC dX5_readRanges_166 2 rfl ?_
                    refine v_callVr (v := .int ((endsM (ynS (ytS (rrY Y F) (yn Y)) g) p v).1)) (C2 := CC Λ X ((endsM (ynS (ytS (rrY Y F) (yn Y)) g) p v).2)) (As := [.int v]) (rest := []) hC 1 204 (c_X5_ends Λ X (ynS (ytS (rrY Y F) (yn Y)) g) (m := v) hz (by omega)) (nR_of (by decide)) (cc_204 Λ X (ynS (ytS (rrY Y F) (yn Y)) g)) rfl gX5_readRanges_X5_ends rfl rfl rfl hd_X5_ends ⟨by decide, by decide⟩ rfl rfl (Nat.le_of_ble_eq_true rfl) dX5_readRanges_167 ?_
                    have e : rrP Y p ty (nI k) = ((endsM (ynS (ytS (rrY Y F) (yn Y)) g) p v).1, (endsM (ynS (ytS (rrY Y F) (yn Y)) g) p v).2) := by rw [rrP, if_neg (by rw [c5]; decide), hik, hF, rrQ, if_neg (fun h => h c18), if_neg (by rw [hok]; decide), ← hr, raL_neg c114]
                    exact v_iretP hC hR e dX5_readRanges_170
                  · have c114' := Int32.not_lt.mp c114
                    have hb := okA_at hok c110
                    have hb1 := (Bool.and_eq_true_iff.mp hb).1
                    have hb2 := (Bool.and_eq_true_iff.mp hb).2
                    obtain ⟨q, hq, eq1⟩ := isN_of hb1
                    rw [eq1] at hb2
                    obtain ⟨q2, hq2, hq3, eq2⟩ := inL_of hb2 hq
                    refine v_aload_n hC dX5_readRanges_117 0 rfl ?_
                    refine v_iload_n hC dX5_readRanges_118 1 rfl ?_
                    refine v_aload_n hC dX5_readRanges_119 0 rfl ?_
                    refine v_get (T := TX5) (N := 13) (v := rf Λ 211) hC 204 (nR_of (by decide)) (cc_204 Λ X (ynS (ytS (rrY Y F) (yn Y)) g)) in_X5_readRanges_X5 rfl 10 (by decide) fl_X5_readRanges_28 rfl dX5_readRanges_120 ?_
                    refine v_iconst (v := 2) hC dX5_readRanges_123 (by decide) ?_
                    refine v_iload hC dX5_readRanges_124 3 rfl ?_
                    refine v_imul (x := 2) (y := nI i) hC dX5_readRanges_126 ?_
                    refine v_topi (y := nI (2 * i)) (pk_mul 2 i) ?_
                    refine v_iald (n := 60) (f := F.2.2.2) hC 211 (nR_of (by decide)) (cc_211 Λ X (ynS (ytS (rrY Y F) (yn Y)) g)) (2 * i) rfl (by omega) (by decide) dX5_readRanges_127 ?_
                    refine v_topi (y := nI q) eq1 ?_
                    refine v_aload_n hC dX5_readRanges_128 0 rfl ?_
                    refine v_get (T := TX5) (N := 13) (v := rf Λ 211) hC 204 (nR_of (by decide)) (cc_204 Λ X (ynS (ytS (rrY Y F) (yn Y)) g)) in_X5_readRanges_X5 rfl 10 (by decide) fl_X5_readRanges_28 rfl dX5_readRanges_129 ?_
                    refine v_iconst (v := 2) hC dX5_readRanges_132 (by decide) ?_
                    refine v_iload hC dX5_readRanges_133 3 rfl ?_
                    refine v_imul (x := 2) (y := nI i) hC dX5_readRanges_135 ?_
                    refine v_topi (y := nI (2 * i)) (pk_mul 2 i) ?_
                    refine v_iconst (v := 1) hC dX5_readRanges_136 (by decide) ?_
                    refine v_iadd (x := nI (2 * i)) (y := 1) hC dX5_readRanges_137 ?_
                    refine v_topi (y := nI (2 * i + 1)) (nI_add (2 * i) 1) ?_
                    refine v_iald (n := 60) (f := F.2.2.2) hC 211 (nR_of (by decide)) (cc_211 Λ X (ynS (ytS (rrY Y F) (yn Y)) g)) (2 * i + 1) rfl (by omega) (by decide) dX5_readRanges_138 ?_
                    refine v_topi (y := nI q2) eq2 ?_
                    refine v_iconst (v := 1) hC dX5_readRanges_139 (by decide) ?_
                    refine v_callVr (v := .int ((gaN k true (q2 + 1 - q) q 0 g).2)) (C2 := CC Λ X (ynS (ynS (ytS (rrY Y F) (yn Y)) g) ((gaN k true (q2 + 1 - q) q 0 g).1))) (As := [.int (nI k), .int (nI q), .int (nI q2), .int 1]) (rest := []) hC 4 204 (c_X5_goesAll Λ X (ynS (ytS (rrY Y F) (yn Y)) g) (s := k) (lo := q) (hi := q2) (comes := true) (by omega) (by omega) (by omega)) (nR_of (by decide)) (cc_204 Λ X (ynS (ytS (rrY Y F) (yn Y)) g)) rfl gX5_readRanges_X5_goesAll rfl rfl rfl hd_X5_goesAll ⟨by decide, by decide⟩ rfl rfl (Nat.le_of_ble_eq_true rfl) dX5_readRanges_140 ?_
                    refine v_istore (lv' := [(5, .int ((gaN k true (q2 + 1 - q) q 0 g).2)), (0, rf Λ 204), (1, .int (nI k)), (3, .int v), (4, .int (nI i))]) hC dX5_readRanges_143 (by decide) rfl ?_
                    refine v_iload hC dX5_readRanges_145 0 rfl ?_
                    refine v_if_ge (tgt := 154) hC dX5_readRanges_147 (by decide) (fun c147 => ?_) (fun c147 => ?_)
                    · have c147' := Int32.not_lt.mpr c147
                      refine v_iload_n hC dX5_readRanges_154 3 rfl ?_
                      refine v_iload hC dX5_readRanges_155 0 rfl ?_
                      refine v_iadd (x := v) (y := (gaN k true (q2 + 1 - q) q 0 g).2) hC dX5_readRanges_157 ?_
                      refine v_istore_n (lv' := [(3, .int (v + ((gaN k true (q2 + 1 - q) q 0 g).2))), (5, .int ((gaN k true (q2 + 1 - q) q 0 g).2)), (0, rf Λ 204), (1, .int (nI k)), (4, .int (nI i))]) hC dX5_readRanges_158 (by decide) rfl ?_
                      refine v_iinc (j := 4) (v := nI (i + 1)) (lv' := [(4, .int (nI (i + 1))), (3, .int (v + ((gaN k true (q2 + 1 - q) q 0 g).2))), (5, .int ((gaN k true (q2 + 1 - q) q 0 g).2)), (0, rf Λ 204), (1, .int (nI k))]) hC dX5_readRanges_159 rfl (nI_add i 1) (by decide) rfl ?_
                      refine v_goto (tgt := 104) hC dX5_readRanges_162 (by decide) ?_
                      refine v_sub (lv' := [(0, rf Λ 204), (1, .int (nI k)), (3, .int (v + ((gaN k true (q2 + 1 - q) q 0 g).2))), (4, .int (nI (i + 1)))]) [3, 4, 1, 0] rfl ?_
                      refine v_mem (C' := CC Λ X (ynS (ytS (rrY Y F) (yn Y)) ((gaN k true (q2 + 1 - q) q 0 g).1))) rfl ?_
                      exact ih104 (i + 1) (v + (gaN k true (q2 + 1 - q) q 0 g).2) ((gaN k true (q2 + 1 - q) q 0 g).1) _ (by omega) (by rw [← hr, show F.2.2.1 - i = (F.2.2.1 - (i + 1)) + 1 by omega]; simp [raL, eq1, eq2, ix_nI (show q < 2 ^ 31 by omega), ix_nI (show q2 < 2 ^ 31 by omega), c5, hik, c18, c33, c33', c110, c110', c114, c114', c147, c147']) rfl (by omega)
                    · have c147' := Int32.not_le.mp c147
                      refine v_iconst (v := (-1)) hC dX5_readRanges_150 (by decide) ?_
                      refine v_goto (tgt := 158) hC dX5_readRanges_151 (by decide) ?_
                      refine v_istore_n (lv' := [(3, .int (-1)), (5, .int ((gaN k true (q2 + 1 - q) q 0 g).2)), (0, rf Λ 204), (1, .int (nI k)), (4, .int (nI i))]) hC dX5_readRanges_158 (by decide) rfl ?_
                      refine v_iinc (j := 4) (v := nI (i + 1)) (lv' := [(4, .int (nI (i + 1))), (3, .int (-1)), (5, .int ((gaN k true (q2 + 1 - q) q 0 g).2)), (0, rf Λ 204), (1, .int (nI k))]) hC dX5_readRanges_159 rfl (nI_add i 1) (by decide) rfl ?_
                      refine v_goto (tgt := 104) hC dX5_readRanges_162 (by decide) ?_
                      refine v_sub (lv' := [(0, rf Λ 204), (1, .int (nI k)), (3, .int (-1)), (4, .int (nI (i + 1)))]) [3, 4, 1, 0] rfl ?_
                      refine v_mem (C' := CC Λ X (ynS (ytS (rrY Y F) (yn Y)) ((gaN k true (q2 + 1 - q) q 0 g).1))) rfl ?_
                      exact ih104 (i + 1) (-1) ((gaN k true (q2 + 1 - q) q 0 g).1) _ (by omega) (by rw [← hr, show F.2.2.1 - i = (F.2.2.1 - (i + 1)) + 1 by omega]; simp [raL, eq1, eq2, ix_nI (show q < 2 ^ 31 by omega), ix_nI (show q2 < 2 ^ 31 by omega), c5, hik, c18, c33, c33', c110, c110', c114, c114', c147, c147']) rfl (by omega)
            refine v_sub (lv' := [(0, rf Λ 204), (1, .int (nI k)), (3, .int 0), (4, .int 0)]) [2, 3, 1, 0] rfl ?_
            refine v_mem (C' := CC Λ X (ynS (ytS (rrY Y F) (yn Y)) (yn Y))) rfl ?_
            exact L104 _ 0 0 (yn Y) _ (by omega) rfl rfl (Nat.lt_succ_self _)
          · have c33' := Nat.not_le.mpr c33
            refine v_aload_n hC dX5_readRanges_36 0 rfl ?_
            refine v_get (T := TX5) (N := 13) (v := rf Λ 211) hC 204 (nR_of (by decide)) (cc_204 Λ X (rrY Y F)) in_X5_readRanges_X5 rfl 10 (by decide) fl_X5_readRanges_28 rfl dX5_readRanges_37 ?_
            refine v_iconst (v := 2) hC dX5_readRanges_40 (by decide) ?_
            refine v_iload_n hC dX5_readRanges_41 2 rfl ?_
            refine v_imul (x := 2) (y := nI j) hC dX5_readRanges_42 ?_
            refine v_topi (y := nI (2 * j)) (pk_mul 2 j) ?_
            refine v_iald (n := 60) (f := F.2.2.2) hC 211 (nR_of (by decide)) (cc_211 Λ X (rrY Y F)) (2 * j) rfl (by omega) (by decide) dX5_readRanges_43 ?_
            refine v_callSr (v := .int (bI (inB (F.2.2.2 (2 * j)) 0 2047))) (C2 := CC Λ X (rrY Y F)) (As := [.int (F.2.2.2 (2 * j))]) (rest := []) hC 1 (c_X5_isNumber Λ X (rrY Y F) (v := F.2.2.2 (2 * j))) gX5_readRanges_X5_isNumber rfl rfl rfl hd_X5_isNumber ⟨by decide, by decide⟩ rfl rfl (Nat.le_of_ble_eq_true rfl) dX5_readRanges_44 ?_
            refine v_beq (b := inB (F.2.2.2 (2 * j)) 0 2047) (tgt := 77) hC dX5_readRanges_47 (by decide) (fun c47 => ?_) (fun c47 => ?_)
            · skip
              refine v_bipush (v := (-2)) hC dX5_readRanges_77 (by decide) ?_
              have e : rrP Y p ty (nI k) = ((-2), (rrY Y F)) := by rw [rrP, if_neg (by rw [c5]; decide), hik, hF]; simp [rrQ, okA_no c33, okB, c5, hik, c18, c33, c33', c47]
              exact v_iretP hC hR e dX5_readRanges_79
            · skip
              refine v_aload_n hC dX5_readRanges_50 0 rfl ?_
              refine v_get (T := TX5) (N := 13) (v := rf Λ 211) hC 204 (nR_of (by decide)) (cc_204 Λ X (rrY Y F)) in_X5_readRanges_X5 rfl 10 (by decide) fl_X5_readRanges_28 rfl dX5_readRanges_51 ?_
              refine v_iconst (v := 2) hC dX5_readRanges_54 (by decide) ?_
              refine v_iload_n hC dX5_readRanges_55 2 rfl ?_
              refine v_imul (x := 2) (y := nI j) hC dX5_readRanges_56 ?_
              refine v_topi (y := nI (2 * j)) (pk_mul 2 j) ?_
              refine v_iconst (v := 1) hC dX5_readRanges_57 (by decide) ?_
              refine v_iadd (x := nI (2 * j)) (y := 1) hC dX5_readRanges_58 ?_
              refine v_topi (y := nI (2 * j + 1)) (nI_add (2 * j) 1) ?_
              refine v_iald (n := 60) (f := F.2.2.2) hC 211 (nR_of (by decide)) (cc_211 Λ X (rrY Y F)) (2 * j + 1) rfl (by omega) (by decide) dX5_readRanges_59 ?_
              refine v_aload_n hC dX5_readRanges_60 0 rfl ?_
              refine v_get (T := TX5) (N := 13) (v := rf Λ 211) hC 204 (nR_of (by decide)) (cc_204 Λ X (rrY Y F)) in_X5_readRanges_X5 rfl 10 (by decide) fl_X5_readRanges_28 rfl dX5_readRanges_61 ?_
              refine v_iconst (v := 2) hC dX5_readRanges_64 (by decide) ?_
              refine v_iload_n hC dX5_readRanges_65 2 rfl ?_
              refine v_imul (x := 2) (y := nI j) hC dX5_readRanges_66 ?_
              refine v_topi (y := nI (2 * j)) (pk_mul 2 j) ?_
              refine v_iald (n := 60) (f := F.2.2.2) hC 211 (nR_of (by decide)) (cc_211 Λ X (rrY Y F)) (2 * j) rfl (by omega) (by decide) dX5_readRanges_67 ?_
              refine v_sipush (v := 2047) hC dX5_readRanges_68 (by decide) ?_
              refine v_callSr (v := .int (bI (inB (F.2.2.2 (2 * j + 1)) (F.2.2.2 (2 * j)) 2047))) (C2 := CC Λ X (rrY Y F)) (As := [.int (F.2.2.2 (2 * j + 1)), .int (F.2.2.2 (2 * j)), .int 2047]) (rest := []) hC 3 (c_X5_in Λ X (rrY Y F) (v := F.2.2.2 (2 * j + 1)) (lo := F.2.2.2 (2 * j)) (hi := 2047)) gX5_readRanges_X5_in rfl rfl rfl hd_X5_in ⟨by decide, by decide⟩ rfl rfl (Nat.le_of_ble_eq_true rfl) dX5_readRanges_71 ?_
              refine v_bne (b := inB (F.2.2.2 (2 * j + 1)) (F.2.2.2 (2 * j)) 2047) (tgt := 80) hC dX5_readRanges_74 (by decide) (fun c74 => ?_) (fun c74 => ?_)
              · skip
                refine v_iinc (j := 2) (v := nI (j + 1)) (lv' := [(3, .int (nI (j + 1))), (0, rf Λ 204), (1, .int (nI k))]) hC dX5_readRanges_80 rfl (nI_add j 1) (by decide) rfl ?_
                refine v_goto (tgt := 28) hC dX5_readRanges_83 (by decide) ?_
                refine v_sub (lv' := [(0, rf Λ 204), (1, .int (nI k)), (3, .int (nI (j + 1)))]) [1, 2, 0] rfl ?_
                exact ih28 (j + 1) _ (by omega) (by simp [okA, okB, hu, c5, hik, c18, c33, c33', c47, c74]) rfl (by omega)
              · skip
                refine v_bipush (v := (-2)) hC dX5_readRanges_77 (by decide) ?_
                have e : rrP Y p ty (nI k) = ((-2), (rrY Y F)) := by rw [rrP, if_neg (by rw [c5]; decide), hik, hF]; simp [rrQ, okA_no c33, okB, c5, hik, c18, c33, c33', c47, c74]
                exact v_iretP hC hR e dX5_readRanges_79
      refine v_sub (lv' := [(0, rf Λ 204), (1, .int (nI k)), (3, .int 0)]) [2, 3, 0] rfl ?_
      exact L28 _ 0 _ (by omega) rfl rfl (Nat.lt_succ_self _)
    · skip
      refine v_bipush (v := (-100)) hC dX5_readRanges_21 (by decide) ?_
      refine v_iload_n hC dX5_readRanges_23 0 rfl ?_
      refine v_isub (x := (-100)) (y := F.1) hC dX5_readRanges_24 ?_
      have e : rrP Y p ty (nI k) = ((-100) - F.1, (rrY Y F)) := by rw [rrP, if_neg (by rw [c5]; decide), hik, hF, rrQ, if_pos c18]
      exact v_iretP hC hR e dX5_readRanges_25
  · skip
    refine v_iconst (v := (-1)) hC dX5_readRanges_8 (by decide) ?_
    have e : rrP Y p ty s = ((-1), Y) := by simp [rrP, c5]
    exact v_iretP hC hR e dX5_readRanges_9
