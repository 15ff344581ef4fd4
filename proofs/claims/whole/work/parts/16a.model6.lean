theorem in_X5_faultOf_X5 : ∀ w ∈ wsX50, w ∈ wsX5_faultOf := by decide +kernel
theorem fl_X5_faultOf_139 : Cond.fieldLink RX5 139 "BoatSetsModel" "at" "I" ∈ wsX5_faultOf := by decide +kernel
theorem fl_X5_faultOf_145 : Cond.fieldLink RX5 145 "BoatSetsModel" "readMany" "I" ∈ wsX5_faultOf := by decide +kernel
theorem fl_X5_faultOf_28 : Cond.fieldLink RX5 28 "BoatSetsModel" "numbers" "[I" ∈ wsX5_faultOf := by decide +kernel
theorem fl_X5_faultOf_136 : Cond.fieldLink RX5 136 "BoatSetsModel" "typed" "I" ∈ wsX5_faultOf := by decide +kernel
theorem hd_X5_faultOf : yX5_faultOf.cls = RX5 ∧ yX5_faultOf.cls ≠ "java/lang/invoke/MethodHandle" ∧ yX5_faultOf.cls ≠ "java/lang/invoke/VarHandle" ∧ (parseMethodDescriptor yX5_faultOf.desc).map (fun d => d.parameters.length) = some 0 := by decide +kernel
set_option maxHeartbeats 400000 in
set_option maxRecDepth 100000 in
theorem c_X5_faultOf (Λ : Lk) (X : XS) (Y : YS) {ty : Nat} (hy : yy Y = nI ty) (hty : ty ≤ 60) : Con Λ yX5_faultOf wsX5_faultOf { frames := 2, cells := 0, slots := 0, locals := 44 } [rf Λ 204] (CC Λ X Y) (some (.int ((foL (signM (yx Y) ty) ty 61 0 0 (yu Y)).1))) (CC Λ X (yaS (ymS (yuS Y (foL (signM (yx Y) ty) ty 61 0 0 (yu Y)).2.2.2) (nI (foL (signM (yx Y) ty) ty 61 0 0 (yu Y)).2.2.1)) (nI (foL (signM (yx Y) ty) ty 61 0 0 (yu Y)).2.1))) := by
  refine con_start (cc := cX5_faultOf) (maxL := 4) (ret := (some .int)) (by decide) rfl (Nat.le_of_ble_eq_true rfl) ?_
  intro κ hC hR
  have hC : Ok Λ { frames := 2, cells := 0, slots := 0, locals := 44 } cX5_faultOf wsX5_faultOf RX5 4 κ := hC
  refine v_args (lv' := [(0, rf Λ 204)]) rfl ?_
  refine v_aload_n hC dX5_faultOf_0 0 rfl ?_
  refine v_iconst (v := 0) hC dX5_faultOf_1 (by decide) ?_
  refine v_put (T := TX5) (N := 13) (v := .int 0) (ty := .int) hC 204 (nR_of (by decide)) (cc_204 Λ X Y) in_X5_faultOf_X5 tyX5 tyX5_ok nmX5 rfl 12 (by decide) fl_X5_faultOf_139 rfl (by decide +kernel) rfl rfl (Nat.le_of_ble_eq_true rfl) dX5_faultOf_2 ?_
  refine v_mem (cs_ya Λ X Y 0) ?_
  refine v_aload_n hC dX5_faultOf_5 0 rfl ?_
  refine v_iconst (v := 0) hC dX5_faultOf_6 (by decide) ?_
  refine v_put (T := TX5) (N := 13) (v := .int 0) (ty := .int) hC 204 (nR_of (by decide)) (cc_204 Λ X (yaS Y 0)) in_X5_faultOf_X5 tyX5 tyX5_ok nmX5 rfl 11 (by decide) fl_X5_faultOf_145 rfl (by decide +kernel) rfl rfl (Nat.le_of_ble_eq_true rfl) dX5_faultOf_7 ?_
  refine v_mem (cs_ym Λ X (yaS Y 0) 0) ?_
  refine v_iconst (v := 1) hC dX5_faultOf_10 (by decide) ?_
  refine v_istore_n (lv' := [(1, .int 1), (0, rf Λ 204)]) hC dX5_faultOf_11 (by decide) rfl ?_
  have L12 : ∀ (fu12 : Nat) (kf : Nat) (gz : Bool) (a : Nat) (m : Nat) (u : Nat → Int32) (x1 : Int32), (gz = true → ty < a + kf) → a ≤ ty → (2 * m ≤ a + 1 ∧ (gz = true → 2 * m ≤ a)) → (if gz = true then foL (signM (yx Y) ty) ty kf a m u else (-5, a, m, u)) = foL (signM (yx Y) ty) ty 61 0 0 (yu Y) → x1 = bI gz → 2 * kf + (if gz = true then 1 else 0) < fu12 → V Λ κ (CC Λ X (yaS (ymS (yuS Y u) (nI m)) (nI a))) 12 [(0, rf Λ 204), (1, .int x1)] [] := by
    intro fu12
    induction fu12 with
    | zero => intro kf gz a m u x1 hkf haty h2m hu e1 hfu12; exact absurd hfu12 (Nat.not_lt_zero _)
    | succ fu12 ih12 =>
      intro kf gz a m u x1 hkf haty h2m hu e1 hfu12
      subst e1
      refine v_iload_n hC dX5_faultOf_12 1 rfl ?_
      refine v_beq (b := gz) (tgt := 165) hC dX5_faultOf_13 (by decide) (fun c13 => ?_) (fun c13 => ?_)
      · skip
        subst c13
        rw [if_neg (by decide)] at hu
        refine v_bipush (v := (-5)) hC dX5_faultOf_165 (by decide) ?_
        refine v_mem (C' := CC Λ X (yaS (ymS (yuS Y u) (nI m)) (nI a))) rfl ?_
        have e : foL (signM (yx Y) ty) ty 61 0 0 (yu Y) = ((-5), a, m, u) := by exact hu.symm
        exact v_iretF hC hR e dX5_faultOf_167
      · skip
        subst c13
        rw [if_pos rfl] at hu
        have hkf2 := hkf rfl
        have h2m2 := h2m.2 rfl
        obtain ⟨kf2, rfl⟩ : ∃ z, kf = z + 1 := ⟨kf - 1, by omega⟩
        refine v_aload_n hC dX5_faultOf_16 0 rfl ?_
        refine v_callVr (v := .int ((rn (signM (yx Y) ty) a).1)) (C2 := CC Λ X (yaS (yaS (ymS (yuS Y u) (nI m)) (nI a)) (nI ((rn (signM (yx Y) ty) a).2)))) (As := []) (rest := []) hC 0 204 (c_X5_readsNumber Λ X (yaS (ymS (yuS Y u) (nI m)) (nI a)) (a := a) hy hty rfl (by omega)) (nR_of (by decide)) (cc_204 Λ X (yaS (ymS (yuS Y u) (nI m)) (nI a))) rfl gX5_faultOf_X5_readsNumber rfl rfl rfl hd_X5_readsNumber ⟨by decide, by decide⟩ rfl rfl (Nat.le_of_ble_eq_true rfl) dX5_faultOf_17 ?_
        have hr17 := rn_le (t := (yx Y)) (ty := ty) (a := a) (by omega)
        refine v_istore_n (lv' := [(2, .int ((rn (signM (yx Y) ty) a).1)), (0, rf Λ 204), (1, .int (bI true))]) hC dX5_faultOf_20 (by decide) rfl ?_
        refine v_iload_n hC dX5_faultOf_21 0 rfl ?_
        refine v_if_ge (tgt := 30) hC dX5_faultOf_22 (by decide) (fun c22 => ?_) (fun c22 => ?_)
        · have c22' := Int32.not_lt.mpr c22
          have hgt := rn_gt c22
          refine v_iload_n hC dX5_faultOf_30 0 rfl ?_
          refine v_istore_n (lv' := [(3, .int ((rn (signM (yx Y) ty) a).1)), (2, .int ((rn (signM (yx Y) ty) a).1)), (0, rf Λ 204), (1, .int (bI true))]) hC dX5_faultOf_31 (by decide) rfl ?_
          refine v_aload_n hC dX5_faultOf_32 2 rfl ?_
          refine v_aload_n hC dX5_faultOf_33 2 rfl ?_
          refine v_get (T := TX5) (N := 13) (v := .int (nI ((rn (signM (yx Y) ty) a).2))) hC 204 (nR_of (by decide)) (cc_204 Λ X (yaS (yaS (ymS (yuS Y u) (nI m)) (nI a)) (nI ((rn (signM (yx Y) ty) a).2)))) in_X5_faultOf_X5 rfl 12 (by decide) fl_X5_faultOf_139 rfl dX5_faultOf_34 ?_
          refine v_callVr (v := .int (signM (yx Y) ty ((rn (signM (yx Y) ty) a).2))) (C2 := CC Λ X (yaS (yaS (ymS (yuS Y u) (nI m)) (nI a)) (nI ((rn (signM (yx Y) ty) a).2)))) (As := [.int (nI ((rn (signM (yx Y) ty) a).2))]) (rest := []) hC 1 204 (c_X5_signAt Λ X (yaS (yaS (ymS (yuS Y u) (nI m)) (nI a)) (nI ((rn (signM (yx Y) ty) a).2))) (k := (rn (signM (yx Y) ty) a).2) hy hty (by omega)) (nR_of (by decide)) (cc_204 Λ X (yaS (yaS (ymS (yuS Y u) (nI m)) (nI a)) (nI ((rn (signM (yx Y) ty) a).2)))) rfl gX5_faultOf_X5_signAt rfl rfl rfl hd_X5_signAt ⟨by decide, by decide⟩ rfl rfl (Nat.le_of_ble_eq_true rfl) dX5_faultOf_37 ?_
          refine v_bipush (v := 45) hC dX5_faultOf_40 (by decide) ?_
          refine v_icmp_ne (x := signM (yx Y) ty ((rn (signM (yx Y) ty) a).2)) (y := 45) (tgt := 60) hC dX5_faultOf_42 (by decide) (fun c42 => ?_) (fun c42 => ?_)
          · skip
            refine v_iload_n hC dX5_faultOf_60 0 rfl ?_
            refine v_if_ge (tgt := 69) hC dX5_faultOf_61 (by decide) (fun c61 => ?_) (fun c61 => ?_)
            · have c61' := Int32.not_lt.mpr c61
              refine v_aload_n hC dX5_faultOf_69 2 rfl ?_
              refine v_get (T := TX5) (N := 13) (v := rf Λ 211) hC 204 (nR_of (by decide)) (cc_204 Λ X (yaS (yaS (ymS (yuS Y u) (nI m)) (nI a)) (nI ((rn (signM (yx Y) ty) a).2)))) in_X5_faultOf_X5 rfl 10 (by decide) fl_X5_faultOf_28 rfl dX5_faultOf_70 ?_
              refine v_iconst (v := 2) hC dX5_faultOf_73 (by decide) ?_
              refine v_aload_n hC dX5_faultOf_74 2 rfl ?_
              refine v_get (T := TX5) (N := 13) (v := .int (nI m)) hC 204 (nR_of (by decide)) (cc_204 Λ X (yaS (yaS (ymS (yuS Y u) (nI m)) (nI a)) (nI ((rn (signM (yx Y) ty) a).2)))) in_X5_faultOf_X5 rfl 11 (by decide) fl_X5_faultOf_145 rfl dX5_faultOf_75 ?_
              refine v_imul (x := 2) (y := nI m) hC dX5_faultOf_78 ?_
              refine v_topi (y := nI (2 * m)) (pk_mul 2 m) ?_
              refine v_iload_n hC dX5_faultOf_79 1 rfl ?_
              refine v_iast (n := 60) (f := u) hC 211 (nR_of (by decide)) (cc_211 Λ X (yaS (yaS (ymS (yuS Y u) (nI m)) (nI a)) (nI ((rn (signM (yx Y) ty) a).2)))) (2 * m) rfl (by omega) (by decide) dX5_faultOf_80 ?_
              refine v_mem (cs_yu Λ X (yaS (yaS (ymS (yuS Y u) (nI m)) (nI a)) (nI ((rn (signM (yx Y) ty) a).2))) (upd u (2 * m) ((rn (signM (yx Y) ty) a).1))) ?_
              refine v_aload_n hC dX5_faultOf_81 2 rfl ?_
              refine v_get (T := TX5) (N := 13) (v := rf Λ 211) hC 204 (nR_of (by decide)) (cc_204 Λ X (yuS (yaS (yaS (ymS (yuS Y u) (nI m)) (nI a)) (nI ((rn (signM (yx Y) ty) a).2))) (upd u (2 * m) ((rn (signM (yx Y) ty) a).1)))) in_X5_faultOf_X5 rfl 10 (by decide) fl_X5_faultOf_28 rfl dX5_faultOf_82 ?_
              refine v_iconst (v := 2) hC dX5_faultOf_85 (by decide) ?_
              refine v_aload_n hC dX5_faultOf_86 2 rfl ?_
              refine v_get (T := TX5) (N := 13) (v := .int (nI m)) hC 204 (nR_of (by decide)) (cc_204 Λ X (yuS (yaS (yaS (ymS (yuS Y u) (nI m)) (nI a)) (nI ((rn (signM (yx Y) ty) a).2))) (upd u (2 * m) ((rn (signM (yx Y) ty) a).1)))) in_X5_faultOf_X5 rfl 11 (by decide) fl_X5_faultOf_145 rfl dX5_faultOf_87 ?_
              refine v_imul (x := 2) (y := nI m) hC dX5_faultOf_90 ?_
              refine v_topi (y := nI (2 * m)) (pk_mul 2 m) ?_
              refine v_iconst (v := 1) hC dX5_faultOf_91 (by decide) ?_
              refine v_iadd (x := nI (2 * m)) (y := 1) hC dX5_faultOf_92 ?_
              refine v_topi (y := nI (2 * m + 1)) (nI_add (2 * m) 1) ?_
              refine v_iload_n hC dX5_faultOf_93 0 rfl ?_
              refine v_iast (n := 60) (f := (upd u (2 * m) ((rn (signM (yx Y) ty) a).1))) hC 211 (nR_of (by decide)) (cc_211 Λ X (yuS (yaS (yaS (ymS (yuS Y u) (nI m)) (nI a)) (nI ((rn (signM (yx Y) ty) a).2))) (upd u (2 * m) ((rn (signM (yx Y) ty) a).1)))) (2 * m + 1) rfl (by omega) (by decide) dX5_faultOf_94 ?_
              refine v_mem (cs_yu Λ X (yuS (yaS (yaS (ymS (yuS Y u) (nI m)) (nI a)) (nI ((rn (signM (yx Y) ty) a).2))) (upd u (2 * m) ((rn (signM (yx Y) ty) a).1))) (upd (upd u (2 * m) ((rn (signM (yx Y) ty) a).1)) (2 * m + 1) ((rn (signM (yx Y) ty) a).1))) ?_
              refine v_aload_n hC dX5_faultOf_95 2 rfl ?_
              refine v_dup hC dX5_faultOf_96 rfl ?_
              refine v_get (T := TX5) (N := 13) (v := .int (nI m)) hC 204 (nR_of (by decide)) (cc_204 Λ X (yuS (yuS (yaS (yaS (ymS (yuS Y u) (nI m)) (nI a)) (nI ((rn (signM (yx Y) ty) a).2))) (upd u (2 * m) ((rn (signM (yx Y) ty) a).1))) (upd (upd u (2 * m) ((rn (signM (yx Y) ty) a).1)) (2 * m + 1) ((rn (signM (yx Y) ty) a).1)))) in_X5_faultOf_X5 rfl 11 (by decide) fl_X5_faultOf_145 rfl dX5_faultOf_97 ?_
              refine v_iconst (v := 1) hC dX5_faultOf_100 (by decide) ?_
              refine v_iadd (x := nI m) (y := 1) hC dX5_faultOf_101 ?_
              refine v_topi (y := nI (m + 1)) (nI_add m 1) ?_
              refine v_put (T := TX5) (N := 13) (v := .int (nI (m + 1))) (ty := .int) hC 204 (nR_of (by decide)) (cc_204 Λ X (yuS (yuS (yaS (yaS (ymS (yuS Y u) (nI m)) (nI a)) (nI ((rn (signM (yx Y) ty) a).2))) (upd u (2 * m) ((rn (signM (yx Y) ty) a).1))) (upd (upd u (2 * m) ((rn (signM (yx Y) ty) a).1)) (2 * m + 1) ((rn (signM (yx Y) ty) a).1)))) in_X5_faultOf_X5 tyX5 tyX5_ok nmX5 rfl 11 (by decide) fl_X5_faultOf_145 rfl (by decide +kernel) rfl rfl (Nat.le_of_ble_eq_true rfl) dX5_faultOf_102 ?_
              refine v_mem (cs_ym Λ X (yuS (yuS (yaS (yaS (ymS (yuS Y u) (nI m)) (nI a)) (nI ((rn (signM (yx Y) ty) a).2))) (upd u (2 * m) ((rn (signM (yx Y) ty) a).1))) (upd (upd u (2 * m) ((rn (signM (yx Y) ty) a).1)) (2 * m + 1) ((rn (signM (yx Y) ty) a).1))) (nI (m + 1))) ?_
              refine v_aload_n hC dX5_faultOf_105 2 rfl ?_
              refine v_get (T := TX5) (N := 13) (v := .int (nI ((rn (signM (yx Y) ty) a).2))) hC 204 (nR_of (by decide)) (cc_204 Λ X (ymS (yuS (yuS (yaS (yaS (ymS (yuS Y u) (nI m)) (nI a)) (nI ((rn (signM (yx Y) ty) a).2))) (upd u (2 * m) ((rn (signM (yx Y) ty) a).1))) (upd (upd u (2 * m) ((rn (signM (yx Y) ty) a).1)) (2 * m + 1) ((rn (signM (yx Y) ty) a).1))) (nI (m + 1)))) in_X5_faultOf_X5 rfl 12 (by decide) fl_X5_faultOf_139 rfl dX5_faultOf_106 ?_
              refine v_aload_n hC dX5_faultOf_109 2 rfl ?_
              refine v_get (T := TX5) (N := 13) (v := .int (yy Y)) hC 204 (nR_of (by decide)) (cc_204 Λ X (ymS (yuS (yuS (yaS (yaS (ymS (yuS Y u) (nI m)) (nI a)) (nI ((rn (signM (yx Y) ty) a).2))) (upd u (2 * m) ((rn (signM (yx Y) ty) a).1))) (upd (upd u (2 * m) ((rn (signM (yx Y) ty) a).1)) (2 * m + 1) ((rn (signM (yx Y) ty) a).1))) (nI (m + 1)))) in_X5_faultOf_X5 rfl 7 (by decide) fl_X5_faultOf_136 rfl dX5_faultOf_110 ?_
              refine v_topi (y := nI ty) hy ?_
              refine v_nge (a := (rn (signM (yx Y) ty) a).2) (b := ty) (tgt := 120) hC dX5_faultOf_113 (by decide) rfl rfl (by omega) (by omega) (fun c113 => ?_) (fun c113 => ?_)
              · have c113' := Nat.not_lt.mpr c113
                refine v_iconst (v := 0) hC dX5_faultOf_120 (by decide) ?_
                refine v_istore_n (lv' := [(1, .int 0), (3, .int ((rn (signM (yx Y) ty) a).1)), (2, .int ((rn (signM (yx Y) ty) a).1)), (0, rf Λ 204)]) hC dX5_faultOf_121 (by decide) rfl ?_
                refine v_iload_n hC dX5_faultOf_122 0 rfl ?_
                refine v_if_eq (x := 0) (tgt := 144) hC dX5_faultOf_123 (by decide) (fun _ => ?_) (fun h => absurd (by decide) h)
                refine v_aload_n hC dX5_faultOf_144 3 rfl ?_
                refine v_dup hC dX5_faultOf_145 rfl ?_
                refine v_get (T := TX5) (N := 13) (v := .int (nI ((rn (signM (yx Y) ty) a).2))) hC 204 (nR_of (by decide)) (cc_204 Λ X (ymS (yuS (yuS (yaS (yaS (ymS (yuS Y u) (nI m)) (nI a)) (nI ((rn (signM (yx Y) ty) a).2))) (upd u (2 * m) ((rn (signM (yx Y) ty) a).1))) (upd (upd u (2 * m) ((rn (signM (yx Y) ty) a).1)) (2 * m + 1) ((rn (signM (yx Y) ty) a).1))) (nI (m + 1)))) in_X5_faultOf_X5 rfl 12 (by decide) fl_X5_faultOf_139 rfl dX5_faultOf_146 ?_
                refine v_iload_n hC dX5_faultOf_149 0 rfl ?_
                refine v_if_eq (x := 0) (tgt := 157) hC dX5_faultOf_150 (by decide) (fun _ => ?_) (fun h => absurd (by decide) h)
                refine v_iconst (v := 0) hC dX5_faultOf_157 (by decide) ?_
                refine v_iadd (x := nI ((rn (signM (yx Y) ty) a).2)) (y := 0) hC dX5_faultOf_158 ?_
                refine v_topi (y := nI ((rn (signM (yx Y) ty) a).2 + 0)) (nI_add ((rn (signM (yx Y) ty) a).2) 0) ?_
                refine v_put (T := TX5) (N := 13) (v := .int (nI ((rn (signM (yx Y) ty) a).2 + 0))) (ty := .int) hC 204 (nR_of (by decide)) (cc_204 Λ X (ymS (yuS (yuS (yaS (yaS (ymS (yuS Y u) (nI m)) (nI a)) (nI ((rn (signM (yx Y) ty) a).2))) (upd u (2 * m) ((rn (signM (yx Y) ty) a).1))) (upd (upd u (2 * m) ((rn (signM (yx Y) ty) a).1)) (2 * m + 1) ((rn (signM (yx Y) ty) a).1))) (nI (m + 1)))) in_X5_faultOf_X5 tyX5 tyX5_ok nmX5 rfl 12 (by decide) fl_X5_faultOf_139 rfl (by decide +kernel) rfl rfl (Nat.le_of_ble_eq_true rfl) dX5_faultOf_159 ?_
                refine v_mem (cs_ya Λ X (ymS (yuS (yuS (yaS (yaS (ymS (yuS Y u) (nI m)) (nI a)) (nI ((rn (signM (yx Y) ty) a).2))) (upd u (2 * m) ((rn (signM (yx Y) ty) a).1))) (upd (upd u (2 * m) ((rn (signM (yx Y) ty) a).1)) (2 * m + 1) ((rn (signM (yx Y) ty) a).1))) (nI (m + 1))) (nI ((rn (signM (yx Y) ty) a).2 + 0))) ?_
                refine v_goto (tgt := 12) hC dX5_faultOf_162 (by decide) ?_
                refine v_sub (lv' := [(0, rf Λ 204), (1, .int 0)]) [3, 0] rfl ?_
                refine v_mem (C' := CC Λ X (yaS (ymS (yuS Y (upd (upd u (2 * m) ((rn (signM (yx Y) ty) a).1)) (2 * m + 1) ((rn (signM (yx Y) ty) a).1))) (nI (m + 1))) (nI ((rn (signM (yx Y) ty) a).2 + 0)))) rfl ?_
                exact ih12 kf2 false ((rn (signM (yx Y) ty) a).2 + 0) (m + 1) (upd (upd u (2 * m) ((rn (signM (yx Y) ty) a).1)) (2 * m + 1) ((rn (signM (yx Y) ty) a).1)) _ (fun h => absurd h (by decide)) (by omega) ⟨by omega, fun h => absurd h (by decide)⟩ (by rw [← hu]; simp [foL, to2, putU, c22, c22', c42, c61, c61', c113, c113']) rfl (by simp; try omega)
              · have c113' := Nat.not_le.mpr c113
                refine v_iconst (v := 1) hC dX5_faultOf_116 (by decide) ?_
                refine v_goto (tgt := 121) hC dX5_faultOf_117 (by decide) ?_
                refine v_istore_n (lv' := [(1, .int 1), (3, .int ((rn (signM (yx Y) ty) a).1)), (2, .int ((rn (signM (yx Y) ty) a).1)), (0, rf Λ 204)]) hC dX5_faultOf_121 (by decide) rfl ?_
                refine v_iload_n hC dX5_faultOf_122 0 rfl ?_
                refine v_if_eq (x := 1) (tgt := 144) hC dX5_faultOf_123 (by decide) (fun h => absurd h (by decide)) (fun _ => ?_)
                refine v_aload_n hC dX5_faultOf_126 3 rfl ?_
                refine v_aload_n hC dX5_faultOf_127 3 rfl ?_
                refine v_get (T := TX5) (N := 13) (v := .int (nI ((rn (signM (yx Y) ty) a).2))) hC 204 (nR_of (by decide)) (cc_204 Λ X (ymS (yuS (yuS (yaS (yaS (ymS (yuS Y u) (nI m)) (nI a)) (nI ((rn (signM (yx Y) ty) a).2))) (upd u (2 * m) ((rn (signM (yx Y) ty) a).1))) (upd (upd u (2 * m) ((rn (signM (yx Y) ty) a).1)) (2 * m + 1) ((rn (signM (yx Y) ty) a).1))) (nI (m + 1)))) in_X5_faultOf_X5 rfl 12 (by decide) fl_X5_faultOf_139 rfl dX5_faultOf_128 ?_
                refine v_callVr (v := .int (signM (yx Y) ty ((rn (signM (yx Y) ty) a).2))) (C2 := CC Λ X (ymS (yuS (yuS (yaS (yaS (ymS (yuS Y u) (nI m)) (nI a)) (nI ((rn (signM (yx Y) ty) a).2))) (upd u (2 * m) ((rn (signM (yx Y) ty) a).1))) (upd (upd u (2 * m) ((rn (signM (yx Y) ty) a).1)) (2 * m + 1) ((rn (signM (yx Y) ty) a).1))) (nI (m + 1)))) (As := [.int (nI ((rn (signM (yx Y) ty) a).2))]) (rest := []) hC 1 204 (c_X5_signAt Λ X (ymS (yuS (yuS (yaS (yaS (ymS (yuS Y u) (nI m)) (nI a)) (nI ((rn (signM (yx Y) ty) a).2))) (upd u (2 * m) ((rn (signM (yx Y) ty) a).1))) (upd (upd u (2 * m) ((rn (signM (yx Y) ty) a).1)) (2 * m + 1) ((rn (signM (yx Y) ty) a).1))) (nI (m + 1))) (k := (rn (signM (yx Y) ty) a).2) hy hty (by omega)) (nR_of (by decide)) (cc_204 Λ X (ymS (yuS (yuS (yaS (yaS (ymS (yuS Y u) (nI m)) (nI a)) (nI ((rn (signM (yx Y) ty) a).2))) (upd u (2 * m) ((rn (signM (yx Y) ty) a).1))) (upd (upd u (2 * m) ((rn (signM (yx Y) ty) a).1)) (2 * m + 1) ((rn (signM (yx Y) ty) a).1))) (nI (m + 1)))) rfl gX5_faultOf_X5_signAt rfl rfl rfl hd_X5_signAt ⟨by decide, by decide⟩ rfl rfl (Nat.le_of_ble_eq_true rfl) dX5_faultOf_131 ?_
                refine v_bipush (v := 44) hC dX5_faultOf_134 (by decide) ?_
                refine v_icmp_eq (x := signM (yx Y) ty ((rn (signM (yx Y) ty) a).2)) (y := 44) (tgt := 144) hC dX5_faultOf_136 (by decide) (fun c136 => ?_) (fun c136 => ?_)
                · skip
                  refine v_aload_n hC dX5_faultOf_144 3 rfl ?_
                  refine v_dup hC dX5_faultOf_145 rfl ?_
                  refine v_get (T := TX5) (N := 13) (v := .int (nI ((rn (signM (yx Y) ty) a).2))) hC 204 (nR_of (by decide)) (cc_204 Λ X (ymS (yuS (yuS (yaS (yaS (ymS (yuS Y u) (nI m)) (nI a)) (nI ((rn (signM (yx Y) ty) a).2))) (upd u (2 * m) ((rn (signM (yx Y) ty) a).1))) (upd (upd u (2 * m) ((rn (signM (yx Y) ty) a).1)) (2 * m + 1) ((rn (signM (yx Y) ty) a).1))) (nI (m + 1)))) in_X5_faultOf_X5 rfl 12 (by decide) fl_X5_faultOf_139 rfl dX5_faultOf_146 ?_
                  refine v_iload_n hC dX5_faultOf_149 0 rfl ?_
                  refine v_if_eq (x := 1) (tgt := 157) hC dX5_faultOf_150 (by decide) (fun h => absurd h (by decide)) (fun _ => ?_)
                  refine v_iconst (v := 1) hC dX5_faultOf_153 (by decide) ?_
                  refine v_goto (tgt := 158) hC dX5_faultOf_154 (by decide) ?_
                  refine v_iadd (x := nI ((rn (signM (yx Y) ty) a).2)) (y := 1) hC dX5_faultOf_158 ?_
                  refine v_topi (y := nI ((rn (signM (yx Y) ty) a).2 + 1)) (nI_add ((rn (signM (yx Y) ty) a).2) 1) ?_
                  refine v_put (T := TX5) (N := 13) (v := .int (nI ((rn (signM (yx Y) ty) a).2 + 1))) (ty := .int) hC 204 (nR_of (by decide)) (cc_204 Λ X (ymS (yuS (yuS (yaS (yaS (ymS (yuS Y u) (nI m)) (nI a)) (nI ((rn (signM (yx Y) ty) a).2))) (upd u (2 * m) ((rn (signM (yx Y) ty) a).1))) (upd (upd u (2 * m) ((rn (signM (yx Y) ty) a).1)) (2 * m + 1) ((rn (signM (yx Y) ty) a).1))) (nI (m + 1)))) in_X5_faultOf_X5 tyX5 tyX5_ok nmX5 rfl 12 (by decide) fl_X5_faultOf_139 rfl (by decide +kernel) rfl rfl (Nat.le_of_ble_eq_true rfl) dX5_faultOf_159 ?_
                  refine v_mem (cs_ya Λ X (ymS (yuS (yuS (yaS (yaS (ymS (yuS Y u) (nI m)) (nI a)) (nI ((rn (signM (yx Y) ty) a).2))) (upd u (2 * m) ((rn (signM (yx Y) ty) a).1))) (upd (upd u (2 * m) ((rn (signM (yx Y) ty) a).1)) (2 * m + 1) ((rn (signM (yx Y) ty) a).1))) (nI (m + 1))) (nI ((rn (signM (yx Y) ty) a).2 + 1))) ?_
                  refine v_goto (tgt := 12) hC dX5_faultOf_162 (by decide) ?_
                  refine v_sub (lv' := [(0, rf Λ 204), (1, .int 1)]) [3, 0] rfl ?_
                  refine v_mem (C' := CC Λ X (yaS (ymS (yuS Y (upd (upd u (2 * m) ((rn (signM (yx Y) ty) a).1)) (2 * m + 1) ((rn (signM (yx Y) ty) a).1))) (nI (m + 1))) (nI ((rn (signM (yx Y) ty) a).2 + 1)))) rfl ?_
                  exact ih12 kf2 true ((rn (signM (yx Y) ty) a).2 + 1) (m + 1) (upd (upd u (2 * m) ((rn (signM (yx Y) ty) a).1)) (2 * m + 1) ((rn (signM (yx Y) ty) a).1)) _ (fun _ => by omega) (by omega) ⟨by omega, fun _ => by omega⟩ (by rw [← hu]; simp [foL, to2, putU, c22, c22', c42, c61, c61', c113, c113', c136]) rfl (by simp; try omega)
                · skip
                  refine v_aload_n hC dX5_faultOf_139 3 rfl ?_
                  refine v_get (T := TX5) (N := 13) (v := .int (nI ((rn (signM (yx Y) ty) a).2))) hC 204 (nR_of (by decide)) (cc_204 Λ X (ymS (yuS (yuS (yaS (yaS (ymS (yuS Y u) (nI m)) (nI a)) (nI ((rn (signM (yx Y) ty) a).2))) (upd u (2 * m) ((rn (signM (yx Y) ty) a).1))) (upd (upd u (2 * m) ((rn (signM (yx Y) ty) a).1)) (2 * m + 1) ((rn (signM (yx Y) ty) a).1))) (nI (m + 1)))) in_X5_faultOf_X5 rfl 12 (by decide) fl_X5_faultOf_139 rfl dX5_faultOf_140 ?_
                  refine v_mem (C' := CC Λ X (yaS (ymS (yuS Y (upd (upd u (2 * m) ((rn (signM (yx Y) ty) a).1)) (2 * m + 1) ((rn (signM (yx Y) ty) a).1))) (nI (m + 1))) (nI ((rn (signM (yx Y) ty) a).2)))) rfl ?_
                  have e : foL (signM (yx Y) ty) ty 61 0 0 (yu Y) = (nI ((rn (signM (yx Y) ty) a).2), (rn (signM (yx Y) ty) a).2, m + 1, (upd (upd u (2 * m) ((rn (signM (yx Y) ty) a).1)) (2 * m + 1) ((rn (signM (yx Y) ty) a).1))) := by rw [← hu]; simp [foL, to2, putU, c22, c22', c42, c61, c61', c113, c113', c136]
                  exact v_iretF hC hR e dX5_faultOf_143
            · exfalso; exact c61 c22
          · skip
            have hlt := sg_lt (t := yx Y) (ty := ty) c42 (by decide)
            refine v_aload_n hC dX5_faultOf_45 2 rfl ?_
            refine v_dup hC dX5_faultOf_46 rfl ?_
            refine v_get (T := TX5) (N := 13) (v := .int (nI ((rn (signM (yx Y) ty) a).2))) hC 204 (nR_of (by decide)) (cc_204 Λ X (yaS (yaS (ymS (yuS Y u) (nI m)) (nI a)) (nI ((rn (signM (yx Y) ty) a).2)))) in_X5_faultOf_X5 rfl 12 (by decide) fl_X5_faultOf_139 rfl dX5_faultOf_47 ?_
            refine v_iconst (v := 1) hC dX5_faultOf_50 (by decide) ?_
            refine v_iadd (x := nI ((rn (signM (yx Y) ty) a).2)) (y := 1) hC dX5_faultOf_51 ?_
            refine v_topi (y := nI ((rn (signM (yx Y) ty) a).2 + 1)) (nI_add ((rn (signM (yx Y) ty) a).2) 1) ?_
            refine v_put (T := TX5) (N := 13) (v := .int (nI ((rn (signM (yx Y) ty) a).2 + 1))) (ty := .int) hC 204 (nR_of (by decide)) (cc_204 Λ X (yaS (yaS (ymS (yuS Y u) (nI m)) (nI a)) (nI ((rn (signM (yx Y) ty) a).2)))) in_X5_faultOf_X5 tyX5 tyX5_ok nmX5 rfl 12 (by decide) fl_X5_faultOf_139 rfl (by decide +kernel) rfl rfl (Nat.le_of_ble_eq_true rfl) dX5_faultOf_52 ?_
            refine v_mem (cs_ya Λ X (yaS (yaS (ymS (yuS Y u) (nI m)) (nI a)) (nI ((rn (signM (yx Y) ty) a).2))) (nI ((rn (signM (yx Y) ty) a).2 + 1))) ?_
            refine v_aload_n hC dX5_faultOf_55 2 rfl ?_
            refine v_callVr (v := .int ((rn (signM (yx Y) ty) ((rn (signM (yx Y) ty) a).2 + 1)).1)) (C2 := CC Λ X (yaS (yaS (yaS (yaS (ymS (yuS Y u) (nI m)) (nI a)) (nI ((rn (signM (yx Y) ty) a).2))) (nI ((rn (signM (yx Y) ty) a).2 + 1))) (nI ((rn (signM (yx Y) ty) ((rn (signM (yx Y) ty) a).2 + 1)).2)))) (As := []) (rest := []) hC 0 204 (c_X5_readsNumber Λ X (yaS (yaS (yaS (ymS (yuS Y u) (nI m)) (nI a)) (nI ((rn (signM (yx Y) ty) a).2))) (nI ((rn (signM (yx Y) ty) a).2 + 1))) (a := ((rn (signM (yx Y) ty) a).2 + 1)) hy hty rfl (by omega)) (nR_of (by decide)) (cc_204 Λ X (yaS (yaS (yaS (ymS (yuS Y u) (nI m)) (nI a)) (nI ((rn (signM (yx Y) ty) a).2))) (nI ((rn (signM (yx Y) ty) a).2 + 1)))) rfl gX5_faultOf_X5_readsNumber rfl rfl rfl hd_X5_readsNumber ⟨by decide, by decide⟩ rfl rfl (Nat.le_of_ble_eq_true rfl) dX5_faultOf_56 ?_
            have hr56 := rn_le (t := (yx Y)) (ty := ty) (a := ((rn (signM (yx Y) ty) a).2 + 1)) (by omega)
            refine v_istore_n (lv' := [(3, .int ((rn (signM (yx Y) ty) ((rn (signM (yx Y) ty) a).2 + 1)).1)), (2, .int ((rn (signM (yx Y) ty) a).1)), (0, rf Λ 204), (1, .int (bI true))]) hC dX5_faultOf_59 (by decide) rfl ?_
            refine v_iload_n hC dX5_faultOf_60 0 rfl ?_
            refine v_if_ge (tgt := 69) hC dX5_faultOf_61 (by decide) (fun c61 => ?_) (fun c61 => ?_)
            · have c61' := Int32.not_lt.mpr c61
              refine v_aload_n hC dX5_faultOf_69 2 rfl ?_
              refine v_get (T := TX5) (N := 13) (v := rf Λ 211) hC 204 (nR_of (by decide)) (cc_204 Λ X (yaS (yaS (yaS (yaS (ymS (yuS Y u) (nI m)) (nI a)) (nI ((rn (signM (yx Y) ty) a).2))) (nI ((rn (signM (yx Y) ty) a).2 + 1))) (nI ((rn (signM (yx Y) ty) ((rn (signM (yx Y) ty) a).2 + 1)).2)))) in_X5_faultOf_X5 rfl 10 (by decide) fl_X5_faultOf_28 rfl dX5_faultOf_70 ?_
              refine v_iconst (v := 2) hC dX5_faultOf_73 (by decide) ?_
              refine v_aload_n hC dX5_faultOf_74 2 rfl ?_
              refine v_get (T := TX5) (N := 13) (v := .int (nI m)) hC 204 (nR_of (by decide)) (cc_204 Λ X (yaS (yaS (yaS (yaS (ymS (yuS Y u) (nI m)) (nI a)) (nI ((rn (signM (yx Y) ty) a).2))) (nI ((rn (signM (yx Y) ty) a).2 + 1))) (nI ((rn (signM (yx Y) ty) ((rn (signM (yx Y) ty) a).2 + 1)).2)))) in_X5_faultOf_X5 rfl 11 (by decide) fl_X5_faultOf_145 rfl dX5_faultOf_75 ?_
              refine v_imul (x := 2) (y := nI m) hC dX5_faultOf_78 ?_
              refine v_topi (y := nI (2 * m)) (pk_mul 2 m) ?_
              refine v_iload_n hC dX5_faultOf_79 1 rfl ?_
              refine v_iast (n := 60) (f := u) hC 211 (nR_of (by decide)) (cc_211 Λ X (yaS (yaS (yaS (yaS (ymS (yuS Y u) (nI m)) (nI a)) (nI ((rn (signM (yx Y) ty) a).2))) (nI ((rn (signM (yx Y) ty) a).2 + 1))) (nI ((rn (signM (yx Y) ty) ((rn (signM (yx Y) ty) a).2 + 1)).2)))) (2 * m) rfl (by omega) (by decide) dX5_faultOf_80 ?_
              refine v_mem (cs_yu Λ X (yaS (yaS (yaS (yaS (ymS (yuS Y u) (nI m)) (nI a)) (nI ((rn (signM (yx Y) ty) a).2))) (nI ((rn (signM (yx Y) ty) a).2 + 1))) (nI ((rn (signM (yx Y) ty) ((rn (signM (yx Y) ty) a).2 + 1)).2))) (upd u (2 * m) ((rn (signM (yx Y) ty) a).1))) ?_
              refine v_aload_n hC dX5_faultOf_81 2 rfl ?_
              refine v_get (T := TX5) (N := 13) (v := rf Λ 211) hC 204 (nR_of (by decide)) (cc_204 Λ X (yuS (yaS (yaS (yaS (yaS (ymS (yuS Y u) (nI m)) (nI a)) (nI ((rn (signM (yx Y) ty) a).2))) (nI ((rn (signM (yx Y) ty) a).2 + 1))) (nI ((rn (signM (yx Y) ty) ((rn (signM (yx Y) ty) a).2 + 1)).2))) (upd u (2 * m) ((rn (signM (yx Y) ty) a).1)))) in_X5_faultOf_X5 rfl 10 (by decide) fl_X5_faultOf_28 rfl dX5_faultOf_82 ?_
              refine v_iconst (v := 2) hC dX5_faultOf_85 (by decide) ?_
              refine v_aload_n hC dX5_faultOf_86 2 rfl ?_
              refine v_get (T := TX5) (N := 13) (v := .int (nI m)) hC 204 (nR_of (by decide)) (cc_204 Λ X (yuS (yaS (yaS (yaS (yaS (ymS (yuS Y u) (nI m)) (nI a)) (nI ((rn (signM (yx Y) ty) a).2))) (nI ((rn (signM (yx Y) ty) a).2 + 1))) (nI ((rn (signM (yx Y) ty) ((rn (signM (yx Y) ty) a).2 + 1)).2))) (upd u (2 * m) ((rn (signM (yx Y) ty) a).1)))) in_X5_faultOf_X5 rfl 11 (by decide) fl_X5_faultOf_145 rfl dX5_faultOf_87 ?_
              refine v_imul (x := 2) (y := nI m) hC dX5_faultOf_90 ?_
              refine v_topi (y := nI (2 * m)) (pk_mul 2 m) ?_
              refine v_iconst (v := 1) hC dX5_faultOf_91 (by decide) ?_
              refine v_iadd (x := nI (2 * m)) (y := 1) hC dX5_faultOf_92 ?_
              refine v_topi (y := nI (2 * m + 1)) (nI_add (2 * m) 1) ?_
              refine v_iload_n hC dX5_faultOf_93 0 rfl ?_
              refine v_iast (n := 60) (f := (upd u (2 * m) ((rn (signM (yx Y) ty) a).1))) hC 211 (nR_of (by decide)) (cc_211 Λ X (yuS (yaS (yaS (yaS (yaS (ymS (yuS Y u) (nI m)) (nI a)) (nI ((rn (signM (yx Y) ty) a).2))) (nI ((rn (signM (yx Y) ty) a).2 + 1))) (nI ((rn (signM (yx Y) ty) ((rn (signM (yx Y) ty) a).2 + 1)).2))) (upd u (2 * m) ((rn (signM (yx Y) ty) a).1)))) (2 * m + 1) rfl (by omega) (by decide) dX5_faultOf_94 ?_
              refine v_mem (cs_yu Λ X (yuS (yaS (yaS (yaS (yaS (ymS (yuS Y u) (nI m)) (nI a)) (nI ((rn (signM (yx Y) ty) a).2))) (nI ((rn (signM (yx Y) ty) a).2 + 1))) (nI ((rn (signM (yx Y) ty) ((rn (signM (yx Y) ty) a).2 + 1)).2))) (upd u (2 * m) ((rn (signM (yx Y) ty) a).1))) (upd (upd u (2 * m) ((rn (signM (yx Y) ty) a).1)) (2 * m + 1) ((rn (signM (yx Y) ty) ((rn (signM (yx Y) ty) a).2 + 1)).1))) ?_
              refine v_aload_n hC dX5_faultOf_95 2 rfl ?_
              refine v_dup hC dX5_faultOf_96 rfl ?_
              refine v_get (T := TX5) (N := 13) (v := .int (nI m)) hC 204 (nR_of (by decide)) (cc_204 Λ X (yuS (yuS (yaS (yaS (yaS (yaS (ymS (yuS Y u) (nI m)) (nI a)) (nI ((rn (signM (yx Y) ty) a).2))) (nI ((rn (signM (yx Y) ty) a).2 + 1))) (nI ((rn (signM (yx Y) ty) ((rn (signM (yx Y) ty) a).2 + 1)).2))) (upd u (2 * m) ((rn (signM (yx Y) ty) a).1))) (upd (upd u (2 * m) ((rn (signM (yx Y) ty) a).1)) (2 * m + 1) ((rn (signM (yx Y) ty) ((rn (signM (yx Y) ty) a).2 + 1)).1)))) in_X5_faultOf_X5 rfl 11 (by decide) fl_X5_faultOf_145 rfl dX5_faultOf_97 ?_
              refine v_iconst (v := 1) hC dX5_faultOf_100 (by decide) ?_
              refine v_iadd (x := nI m) (y := 1) hC dX5_faultOf_101 ?_
              refine v_topi (y := nI (m + 1)) (nI_add m 1) ?_
              refine v_put (T := TX5) (N := 13) (v := .int (nI (m + 1))) (ty := .int) hC 204 (nR_of (by decide)) (cc_204 Λ X (yuS (yuS (yaS (yaS (yaS (yaS (ymS (yuS Y u) (nI m)) (nI a)) (nI ((rn (signM (yx Y) ty) a).2))) (nI ((rn (signM (yx Y) ty) a).2 + 1))) (nI ((rn (signM (yx Y) ty) ((rn (signM (yx Y) ty) a).2 + 1)).2))) (upd u (2 * m) ((rn (signM (yx Y) ty) a).1))) (upd (upd u (2 * m) ((rn (signM (yx Y) ty) a).1)) (2 * m + 1) ((rn (signM (yx Y) ty) ((rn (signM (yx Y) ty) a).2 + 1)).1)))) in_X5_faultOf_X5 tyX5 tyX5_ok nmX5 rfl 11 (by decide) fl_X5_faultOf_145 rfl (by decide +kernel) rfl rfl (Nat.le_of_ble_eq_true rfl) dX5_faultOf_102 ?_
              refine v_mem (cs_ym Λ X (yuS (yuS (yaS (yaS (yaS (yaS (ymS (yuS Y u) (nI m)) (nI a)) (nI ((rn (signM (yx Y) ty) a).2))) (nI ((rn (signM (yx Y) ty) a).2 + 1))) (nI ((rn (signM (yx Y) ty) ((rn (signM (yx Y) ty) a).2 + 1)).2))) (upd u (2 * m) ((rn (signM (yx Y) ty) a).1))) (upd (upd u (2 * m) ((rn (signM (yx Y) ty) a).1)) (2 * m + 1) ((rn (signM (yx Y) ty) ((rn (signM (yx Y) ty) a).2 + 1)).1))) (nI (m + 1))) ?_
              refine v_aload_n hC dX5_faultOf_105 2 rfl ?_
              refine v_get (T := TX5) (N := 13) (v := .int (nI ((rn (signM (yx Y) ty) ((rn (signM (yx Y) ty) a).2 + 1)).2))) hC 204 (nR_of (by decide)) (cc_204 Λ X (ymS (yuS (yuS (yaS (yaS (yaS (yaS (ymS (yuS Y u) (nI m)) (nI a)) (nI ((rn (signM (yx Y) ty) a).2))) (nI ((rn (signM (yx Y) ty) a).2 + 1))) (nI ((rn (signM (yx Y) ty) ((rn (signM (yx Y) ty) a).2 + 1)).2))) (upd u (2 * m) ((rn (signM (yx Y) ty) a).1))) (upd (upd u (2 * m) ((rn (signM (yx Y) ty) a).1)) (2 * m + 1) ((rn (signM (yx Y) ty) ((rn (signM (yx Y) ty) a).2 + 1)).1))) (nI (m + 1)))) in_X5_faultOf_X5 rfl 12 (by decide) fl_X5_faultOf_139 rfl dX5_faultOf_106 ?_
              refine v_aload_n hC dX5_faultOf_109 2 rfl ?_
              refine v_get (T := TX5) (N := 13) (v := .int (yy Y)) hC 204 (nR_of (by decide)) (cc_204 Λ X (ymS (yuS (yuS (yaS (yaS (yaS (yaS (ymS (yuS Y u) (nI m)) (nI a)) (nI ((rn (signM (yx Y) ty) a).2))) (nI ((rn (signM (yx Y) ty) a).2 + 1))) (nI ((rn (signM (yx Y) ty) ((rn (signM (yx Y) ty) a).2 + 1)).2))) (upd u (2 * m) ((rn (signM (yx Y) ty) a).1))) (upd (upd u (2 * m) ((rn (signM (yx Y) ty) a).1)) (2 * m + 1) ((rn (signM (yx Y) ty) ((rn (signM (yx Y) ty) a).2 + 1)).1))) (nI (m + 1)))) in_X5_faultOf_X5 rfl 7 (by decide) fl_X5_faultOf_136 rfl dX5_faultOf_110 ?_
              refine v_topi (y := nI ty) hy ?_
              refine v_nge (a := (rn (signM (yx Y) ty) ((rn (signM (yx Y) ty) a).2 + 1)).2) (b := ty) (tgt := 120) hC dX5_faultOf_113 (by decide) rfl rfl (by omega) (by omega) (fun c113 => ?_) (fun c113 => ?_)
              · have c113' := Nat.not_lt.mpr c113
                refine v_iconst (v := 0) hC dX5_faultOf_120 (by decide) ?_
                refine v_istore_n (lv' := [(1, .int 0), (3, .int ((rn (signM (yx Y) ty) ((rn (signM (yx Y) ty) a).2 + 1)).1)), (2, .int ((rn (signM (yx Y) ty) a).1)), (0, rf Λ 204)]) hC dX5_faultOf_121 (by decide) rfl ?_
                refine v_iload_n hC dX5_faultOf_122 0 rfl ?_
                refine v_if_eq (x := 0) (tgt := 144) hC dX5_faultOf_123 (by decide) (fun _ => ?_) (fun h => absurd (by decide) h)
                refine v_aload_n hC dX5_faultOf_144 3 rfl ?_
                refine v_dup hC dX5_faultOf_145 rfl ?_
                refine v_get (T := TX5) (N := 13) (v := .int (nI ((rn (signM (yx Y) ty) ((rn (signM (yx Y) ty) a).2 + 1)).2))) hC 204 (nR_of (by decide)) (cc_204 Λ X (ymS (yuS (yuS (yaS (yaS (yaS (yaS (ymS (yuS Y u) (nI m)) (nI a)) (nI ((rn (signM (yx Y) ty) a).2))) (nI ((rn (signM (yx Y) ty) a).2 + 1))) (nI ((rn (signM (yx Y) ty) ((rn (signM (yx Y) ty) a).2 + 1)).2))) (upd u (2 * m) ((rn (signM (yx Y) ty) a).1))) (upd (upd u (2 * m) ((rn (signM (yx Y) ty) a).1)) (2 * m + 1) ((rn (signM (yx Y) ty) ((rn (signM (yx Y) ty) a).2 + 1)).1))) (nI (m + 1)))) in_X5_faultOf_X5 rfl 12 (by decide) fl_X5_faultOf_139 rfl dX5_faultOf_146 ?_
                refine v_iload_n hC dX5_faultOf_149 0 rfl ?_
                refine v_if_eq (x := 0) (tgt := 157) hC dX5_faultOf_150 (by decide) (fun _ => ?_) (fun h => absurd (by decide) h)
                refine v_iconst (v := 0) hC dX5_faultOf_157 (by decide) ?_
                refine v_iadd (x := nI ((rn (signM (yx Y) ty) ((rn (signM (yx Y) ty) a).2 + 1)).2)) (y := 0) hC dX5_faultOf_158 ?_
                refine v_topi (y := nI ((rn (signM (yx Y) ty) ((rn (signM (yx Y) ty) a).2 + 1)).2 + 0)) (nI_add ((rn (signM (yx Y) ty) ((rn (signM (yx Y) ty) a).2 + 1)).2) 0) ?_
                refine v_put (T := TX5) (N := 13) (v := .int (nI ((rn (signM (yx Y) ty) ((rn (signM (yx Y) ty) a).2 + 1)).2 + 0))) (ty := .int) hC 204 (nR_of (by decide)) (cc_204 Λ X (ymS (yuS (yuS (yaS (yaS (yaS (yaS (ymS (yuS Y u) (nI m)) (nI a)) (nI ((rn (signM (yx Y) ty) a).2))) (nI ((rn (signM (yx Y) ty) a).2 + 1))) (nI ((rn (signM (yx Y) ty) ((rn (signM (yx Y) ty) a).2 + 1)).2))) (upd u (2 * m) ((rn (signM (yx Y) ty) a).1))) (upd (upd u (2 * m) ((rn (signM (yx Y) ty) a).1)) (2 * m + 1) ((rn (signM (yx Y) ty) ((rn (signM (yx Y) ty) a).2 + 1)).1))) (nI (m + 1)))) in_X5_faultOf_X5 tyX5 tyX5_ok nmX5 rfl 12 (by decide) fl_X5_faultOf_139 rfl (by decide +kernel) rfl rfl (Nat.le_of_ble_eq_true rfl) dX5_faultOf_159 ?_
                refine v_mem (cs_ya Λ X (ymS (yuS (yuS (yaS (yaS (yaS (yaS (ymS (yuS Y u) (nI m)) (nI a)) (nI ((rn (signM (yx Y) ty) a).2))) (nI ((rn (signM (yx Y) ty) a).2 + 1))) (nI ((rn (signM (yx Y) ty) ((rn (signM (yx Y) ty) a).2 + 1)).2))) (upd u (2 * m) ((rn (signM (yx Y) ty) a).1))) (upd (upd u (2 * m) ((rn (signM (yx Y) ty) a).1)) (2 * m + 1) ((rn (signM (yx Y) ty) ((rn (signM (yx Y) ty) a).2 + 1)).1))) (nI (m + 1))) (nI ((rn (signM (yx Y) ty) ((rn (signM (yx Y) ty) a).2 + 1)).2 + 0))) ?_
                refine v_goto (tgt := 12) hC dX5_faultOf_162 (by decide) ?_
                refine v_sub (lv' := [(0, rf Λ 204), (1, .int 0)]) [3, 0] rfl ?_
                refine v_mem (C' := CC Λ X (yaS (ymS (yuS Y (upd (upd u (2 * m) ((rn (signM (yx Y) ty) a).1)) (2 * m + 1) ((rn (signM (yx Y) ty) ((rn (signM (yx Y) ty) a).2 + 1)).1))) (nI (m + 1))) (nI ((rn (signM (yx Y) ty) ((rn (signM (yx Y) ty) a).2 + 1)).2 + 0)))) rfl ?_
                exact ih12 kf2 false ((rn (signM (yx Y) ty) ((rn (signM (yx Y) ty) a).2 + 1)).2 + 0) (m + 1) (upd (upd u (2 * m) ((rn (signM (yx Y) ty) a).1)) (2 * m + 1) ((rn (signM (yx Y) ty) ((rn (signM (yx Y) ty) a).2 + 1)).1)) _ (fun h => absurd h (by decide)) (by omega) ⟨by omega, fun h => absurd h (by decide)⟩ (by rw [← hu]; simp [foL, to2, putU, c22, c22', c42, c61, c61', c113, c113']) rfl (by simp; try omega)
              · have c113' := Nat.not_le.mpr c113
                refine v_iconst (v := 1) hC dX5_faultOf_116 (by decide) ?_
                refine v_goto (tgt := 121) hC dX5_faultOf_117 (by decide) ?_
                refine v_istore_n (lv' := [(1, .int 1), (3, .int ((rn (signM (yx Y) ty) ((rn (signM (yx Y) ty) a).2 + 1)).1)), (2, .int ((rn (signM (yx Y) ty) a).1)), (0, rf Λ 204)]) hC dX5_faultOf_121 (by decide) rfl ?_
                refine v_iload_n hC dX5_faultOf_122 0 rfl ?_
                refine v_if_eq (x := 1) (tgt := 144) hC dX5_faultOf_123 (by decide) (fun h => absurd h (by decide)) (fun _ => ?_)
                refine v_aload_n hC dX5_faultOf_126 3 rfl ?_
                refine v_aload_n hC dX5_faultOf_127 3 rfl ?_
                refine v_get (T := TX5) (N := 13) (v := .int (nI ((rn (signM (yx Y) ty) ((rn (signM (yx Y) ty) a).2 + 1)).2))) hC 204 (nR_of (by decide)) (cc_204 Λ X (ymS (yuS (yuS (yaS (yaS (yaS (yaS (ymS (yuS Y u) (nI m)) (nI a)) (nI ((rn (signM (yx Y) ty) a).2))) (nI ((rn (signM (yx Y) ty) a).2 + 1))) (nI ((rn (signM (yx Y) ty) ((rn (signM (yx Y) ty) a).2 + 1)).2))) (upd u (2 * m) ((rn (signM (yx Y) ty) a).1))) (upd (upd u (2 * m) ((rn (signM (yx Y) ty) a).1)) (2 * m + 1) ((rn (signM (yx Y) ty) ((rn (signM (yx Y) ty) a).2 + 1)).1))) (nI (m + 1)))) in_X5_faultOf_X5 rfl 12 (by decide) fl_X5_faultOf_139 rfl dX5_faultOf_128 ?_
                refine v_callVr (v := .int (signM (yx Y) ty ((rn (signM (yx Y) ty) ((rn (signM (yx Y) ty) a).2 + 1)).2))) (C2 := CC Λ X (ymS (yuS (yuS (yaS (yaS (yaS (yaS (ymS (yuS Y u) (nI m)) (nI a)) (nI ((rn (signM (yx Y) ty) a).2))) (nI ((rn (signM (yx Y) ty) a).2 + 1))) (nI ((rn (signM (yx Y) ty) ((rn (signM (yx Y) ty) a).2 + 1)).2))) (upd u (2 * m) ((rn (signM (yx Y) ty) a).1))) (upd (upd u (2 * m) ((rn (signM (yx Y) ty) a).1)) (2 * m + 1) ((rn (signM (yx Y) ty) ((rn (signM (yx Y) ty) a).2 + 1)).1))) (nI (m + 1)))) (As := [.int (nI ((rn (signM (yx Y) ty) ((rn (signM (yx Y) ty) a).2 + 1)).2))]) (rest := []) hC 1 204 (c_X5_signAt Λ X (ymS (yuS (yuS (yaS (yaS (yaS (yaS (ymS (yuS Y u) (nI m)) (nI a)) (nI ((rn (signM (yx Y) ty) a).2))) (nI ((rn (signM (yx Y) ty) a).2 + 1))) (nI ((rn (signM (yx Y) ty) ((rn (signM (yx Y) ty) a).2 + 1)).2))) (upd u (2 * m) ((rn (signM (yx Y) ty) a).1))) (upd (upd u (2 * m) ((rn (signM (yx Y) ty) a).1)) (2 * m + 1) ((rn (signM (yx Y) ty) ((rn (signM (yx Y) ty) a).2 + 1)).1))) (nI (m + 1))) (k := (rn (signM (yx Y) ty) ((rn (signM (yx Y) ty) a).2 + 1)).2) hy hty (by omega)) (nR_of (by decide)) (cc_204 Λ X (ymS (yuS (yuS (yaS (yaS (yaS (yaS (ymS (yuS Y u) (nI m)) (nI a)) (nI ((rn (signM (yx Y) ty) a).2))) (nI ((rn (signM (yx Y) ty) a).2 + 1))) (nI ((rn (signM (yx Y) ty) ((rn (signM (yx Y) ty) a).2 + 1)).2))) (upd u (2 * m) ((rn (signM (yx Y) ty) a).1))) (upd (upd u (2 * m) ((rn (signM (yx Y) ty) a).1)) (2 * m + 1) ((rn (signM (yx Y) ty) ((rn (signM (yx Y) ty) a).2 + 1)).1))) (nI (m + 1)))) rfl gX5_faultOf_X5_signAt rfl rfl rfl hd_X5_signAt ⟨by decide, by decide⟩ rfl rfl (Nat.le_of_ble_eq_true rfl) dX5_faultOf_131 ?_
                refine v_bipush (v := 44) hC dX5_faultOf_134 (by decide) ?_
                refine v_icmp_eq (x := signM (yx Y) ty ((rn (signM (yx Y) ty) ((rn (signM (yx Y) ty) a).2 + 1)).2)) (y := 44) (tgt := 144) hC dX5_faultOf_136 (by decide) (fun c136 => ?_) (fun c136 => ?_)
                · skip
                  refine v_aload_n hC dX5_faultOf_144 3 rfl ?_
                  refine v_dup hC dX5_faultOf_145 rfl ?_
                  refine v_get (T := TX5) (N := 13) (v := .int (nI ((rn (signM (yx Y) ty) ((rn (signM (yx Y) ty) a).2 + 1)).2))) hC 204 (nR_of (by decide)) (cc_204 Λ X (ymS (yuS (yuS (yaS (yaS (yaS (yaS (ymS (yuS Y u) (nI m)) (nI a)) (nI ((rn (signM (yx Y) ty) a).2))) (nI ((rn (signM (yx Y) ty) a).2 + 1))) (nI ((rn (signM (yx Y) ty) ((rn (signM (yx Y) ty) a).2 + 1)).2))) (upd u (2 * m) ((rn (signM (yx Y) ty) a).1))) (upd (upd u (2 * m) ((rn (signM (yx Y) ty) a).1)) (2 * m + 1) ((rn (signM (yx Y) ty) ((rn (signM (yx Y) ty) a).2 + 1)).1))) (nI (m + 1)))) in_X5_faultOf_X5 rfl 12 (by decide) fl_X5_faultOf_139 rfl dX5_faultOf_146 ?_
                  refine v_iload_n hC dX5_faultOf_149 0 rfl ?_
                  refine v_if_eq (x := 1) (tgt := 157) hC dX5_faultOf_150 (by decide) (fun h => absurd h (by decide)) (fun _ => ?_)
                  refine v_iconst (v := 1) hC dX5_faultOf_153 (by decide) ?_
                  refine v_goto (tgt := 158) hC dX5_faultOf_154 (by decide) ?_
                  refine v_iadd (x := nI ((rn (signM (yx Y) ty) ((rn (signM (yx Y) ty) a).2 + 1)).2)) (y := 1) hC dX5_faultOf_158 ?_
                  refine v_topi (y := nI ((rn (signM (yx Y) ty) ((rn (signM (yx Y) ty) a).2 + 1)).2 + 1)) (nI_add ((rn (signM (yx Y) ty) ((rn (signM (yx Y) ty) a).2 + 1)).2) 1) ?_
                  refine v_put (T := TX5) (N := 13) (v := .int (nI ((rn (signM (yx Y) ty) ((rn (signM (yx Y) ty) a).2 + 1)).2 + 1))) (ty := .int) hC 204 (nR_of (by decide)) (cc_204 Λ X (ymS (yuS (yuS (yaS (yaS (yaS (yaS (ymS (yuS Y u) (nI m)) (nI a)) (nI ((rn (signM (yx Y) ty) a).2))) (nI ((rn (signM (yx Y) ty) a).2 + 1))) (nI ((rn (signM (yx Y) ty) ((rn (signM (yx Y) ty) a).2 + 1)).2))) (upd u (2 * m) ((rn (signM (yx Y) ty) a).1))) (upd (upd u (2 * m) ((rn (signM (yx Y) ty) a).1)) (2 * m + 1) ((rn (signM (yx Y) ty) ((rn (signM (yx Y) ty) a).2 + 1)).1))) (nI (m + 1)))) in_X5_faultOf_X5 tyX5 tyX5_ok nmX5 rfl 12 (by decide) fl_X5_faultOf_139 rfl (by decide +kernel) rfl rfl (Nat.le_of_ble_eq_true rfl) dX5_faultOf_159 ?_
                  refine v_mem (cs_ya Λ X (ymS (yuS (yuS (yaS (yaS (yaS (yaS (ymS (yuS Y u) (nI m)) (nI a)) (nI ((rn (signM (yx Y) ty) a).2))) (nI ((rn (signM (yx Y) ty) a).2 + 1))) (nI ((rn (signM (yx Y) ty) ((rn (signM (yx Y) ty) a).2 + 1)).2))) (upd u (2 * m) ((rn (signM (yx Y) ty) a).1))) (upd (upd u (2 * m) ((rn (signM (yx Y) ty) a).1)) (2 * m + 1) ((rn (signM (yx Y) ty) ((rn (signM (yx Y) ty) a).2 + 1)).1))) (nI (m + 1))) (nI ((rn (signM (yx Y) ty) ((rn (signM (yx Y) ty) a).2 + 1)).2 + 1))) ?_
                  refine v_goto (tgt := 12) hC dX5_faultOf_162 (by decide) ?_
                  refine v_sub (lv' := [(0, rf Λ 204), (1, .int 1)]) [3, 0] rfl ?_
                  refine v_mem (C' := CC Λ X (yaS (ymS (yuS Y (upd (upd u (2 * m) ((rn (signM (yx Y) ty) a).1)) (2 * m + 1) ((rn (signM (yx Y) ty) ((rn (signM (yx Y) ty) a).2 + 1)).1))) (nI (m + 1))) (nI ((rn (signM (yx Y) ty) ((rn (signM (yx Y) ty) a).2 + 1)).2 + 1)))) rfl ?_
                  exact ih12 kf2 true ((rn (signM (yx Y) ty) ((rn (signM (yx Y) ty) a).2 + 1)).2 + 1) (m + 1) (upd (upd u (2 * m) ((rn (signM (yx Y) ty) a).1)) (2 * m + 1) ((rn (signM (yx Y) ty) ((rn (signM (yx Y) ty) a).2 + 1)).1)) _ (fun _ => by omega) (by omega) ⟨by omega, fun _ => by omega⟩ (by rw [← hu]; simp [foL, to2, putU, c22, c22', c42, c61, c61', c113, c113', c136]) rfl (by simp; try omega)
                · skip
                  refine v_aload_n hC dX5_faultOf_139 3 rfl ?_
                  refine v_get (T := TX5) (N := 13) (v := .int (nI ((rn (signM (yx Y) ty) ((rn (signM (yx Y) ty) a).2 + 1)).2))) hC 204 (nR_of (by decide)) (cc_204 Λ X (ymS (yuS (yuS (yaS (yaS (yaS (yaS (ymS (yuS Y u) (nI m)) (nI a)) (nI ((rn (signM (yx Y) ty) a).2))) (nI ((rn (signM (yx Y) ty) a).2 + 1))) (nI ((rn (signM (yx Y) ty) ((rn (signM (yx Y) ty) a).2 + 1)).2))) (upd u (2 * m) ((rn (signM (yx Y) ty) a).1))) (upd (upd u (2 * m) ((rn (signM (yx Y) ty) a).1)) (2 * m + 1) ((rn (signM (yx Y) ty) ((rn (signM (yx Y) ty) a).2 + 1)).1))) (nI (m + 1)))) in_X5_faultOf_X5 rfl 12 (by decide) fl_X5_faultOf_139 rfl dX5_faultOf_140 ?_
                  refine v_mem (C' := CC Λ X (yaS (ymS (yuS Y (upd (upd u (2 * m) ((rn (signM (yx Y) ty) a).1)) (2 * m + 1) ((rn (signM (yx Y) ty) ((rn (signM (yx Y) ty) a).2 + 1)).1))) (nI (m + 1))) (nI ((rn (signM (yx Y) ty) ((rn (signM (yx Y) ty) a).2 + 1)).2)))) rfl ?_
                  have e : foL (signM (yx Y) ty) ty 61 0 0 (yu Y) = (nI ((rn (signM (yx Y) ty) ((rn (signM (yx Y) ty) a).2 + 1)).2), (rn (signM (yx Y) ty) ((rn (signM (yx Y) ty) a).2 + 1)).2, m + 1, (upd (upd u (2 * m) ((rn (signM (yx Y) ty) a).1)) (2 * m + 1) ((rn (signM (yx Y) ty) ((rn (signM (yx Y) ty) a).2 + 1)).1))) := by rw [← hu]; simp [foL, to2, putU, c22, c22', c42, c61, c61', c113, c113', c136]
                  exact v_iretF hC hR e dX5_faultOf_143
            · have c61' := Int32.not_le.mp c61
              refine v_aload_n hC dX5_faultOf_64 2 rfl ?_
              refine v_get (T := TX5) (N := 13) (v := .int (nI ((rn (signM (yx Y) ty) ((rn (signM (yx Y) ty) a).2 + 1)).2))) hC 204 (nR_of (by decide)) (cc_204 Λ X (yaS (yaS (yaS (yaS (ymS (yuS Y u) (nI m)) (nI a)) (nI ((rn (signM (yx Y) ty) a).2))) (nI ((rn (signM (yx Y) ty) a).2 + 1))) (nI ((rn (signM (yx Y) ty) ((rn (signM (yx Y) ty) a).2 + 1)).2)))) in_X5_faultOf_X5 rfl 12 (by decide) fl_X5_faultOf_139 rfl dX5_faultOf_65 ?_
              refine v_mem (C' := CC Λ X (yaS (ymS (yuS Y u) (nI m)) (nI ((rn (signM (yx Y) ty) ((rn (signM (yx Y) ty) a).2 + 1)).2)))) rfl ?_
              have e : foL (signM (yx Y) ty) ty 61 0 0 (yu Y) = (nI ((rn (signM (yx Y) ty) ((rn (signM (yx Y) ty) a).2 + 1)).2), (rn (signM (yx Y) ty) ((rn (signM (yx Y) ty) a).2 + 1)).2, m, u) := by rw [← hu]; simp [foL, to2, putU, c22, c22', c42, c61, c61']
              exact v_iretF hC hR e dX5_faultOf_68
        · have c22' := Int32.not_le.mp c22
          refine v_aload_n hC dX5_faultOf_25 1 rfl ?_
          refine v_get (T := TX5) (N := 13) (v := .int (nI ((rn (signM (yx Y) ty) a).2))) hC 204 (nR_of (by decide)) (cc_204 Λ X (yaS (yaS (ymS (yuS Y u) (nI m)) (nI a)) (nI ((rn (signM (yx Y) ty) a).2)))) in_X5_faultOf_X5 rfl 12 (by decide) fl_X5_faultOf_139 rfl dX5_faultOf_26 ?_
          refine v_mem (C' := CC Λ X (yaS (ymS (yuS Y u) (nI m)) (nI ((rn (signM (yx Y) ty) a).2)))) rfl ?_
          have e : foL (signM (yx Y) ty) ty 61 0 0 (yu Y) = (nI ((rn (signM (yx Y) ty) a).2), (rn (signM (yx Y) ty) a).2, m, u) := by rw [← hu]; simp [foL, to2, putU, c22, c22']
          exact v_iretF hC hR e dX5_faultOf_29
  refine v_sub (lv' := [(0, rf Λ 204), (1, .int 1)]) [1, 0] rfl ?_
  refine v_mem (C' := CC Λ X (yaS (ymS (yuS Y (yu Y)) (nI 0)) (nI 0))) rfl ?_
  exact L12 _ 61 true 0 0 (yu Y) _ (fun _ => by omega) (by omega) ⟨by omega, fun _ => by omega⟩ rfl rfl (Nat.lt_succ_self _)
