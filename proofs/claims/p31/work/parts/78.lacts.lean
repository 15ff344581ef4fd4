/-! The law: an act, looked at -/
theorem und_T {X : XS} {t u : Nat} (ht : t ≠ 0) : unX X t u = (nI (t - 1), popX X t u) := if_neg ht
theorem hd_L_acts : yL_acts.cls ≠ "java/lang/invoke/MethodHandle" ∧ yL_acts.cls ≠ "java/lang/invoke/VarHandle" ∧ (parseMethodDescriptor yL_acts.desc).map (fun d => d.parameters.length) = some 4 := by decide +kernel
set_option maxHeartbeats 400000 in
set_option maxRecDepth 100000 in
theorem c_acts_f (Λ : Lk) (X : XS) (Y : YS) {m t : Nat} {z p : Int32} (h : Inv X Y m t) (h1 : 0 < m) {f6 : FR} {tl d : Int32} {X2 : XS} {g2 : YS} (ht : tollX X m (nI (upN z m)) = (tl, (xFi X 36 f6))) (hc : Con Λ yL_act wsL_act { frames := 7, cells := 0, slots := 0, locals := 173 } [rf Λ 197, .int z, .int p, rf Λ 204] (CC Λ (xFi X 36 f6) Y) (some (.int d)) (CC Λ X2 g2)) (hd : d < 0) (h2 : Inv X2 g2 m t) (hv : Vw (xFi X 36 f6) X2 m) : Con Λ yL_acts wsL_acts { frames := 8, cells := 0, slots := 0, locals := 204 } [rf Λ 197, .int z, .int p, rf Λ 204] (CC Λ X Y) (some (.int 1)) (CC Λ X2 g2) := by
  refine con_start (cc := cL_acts) (maxL := 16) (ret := (some .boolean)) (by decide) rfl (Nat.le_of_ble_eq_true rfl) ?_
  intro κ hC hR
  have hC : Ok Λ { frames := 8, cells := 0, slots := 0, locals := 204 } cL_acts wsL_acts RL 16 κ := hC
  refine v_args (lv' := [(0, rf Λ 197), (1, .int z), (2, .int p), (3, rf Λ 204)]) rfl ?_
  have hm0 := h.1.1
  have hm := h.1.2
  have hp0 := h.2.2.1.1
  have ht4 := h.2.2.1.2.1
  have hq := h.2.2.1.2.2.1
  have hl0 := h.2.2.2.2.1
  have jm0 := h2.1.1
  have jm := h2.1.2
  have jp0 := h2.2.2.1.1
  have jt4 := h2.2.2.1.2.1
  have jq := h2.2.2.1.2.2.1
  have jl0 := h2.2.2.2.2.1
  have hs : upN z m < m := upN_lt z h1
  have e36 : ∀ j, j < m → (xFi X 36 f6).1 j = X.1 j := fun j hj => xFi_ne X f6 (by omega)
  have hv1 : Vw X (xFi X 36 f6) m := fun j hj => by rw [e36 j hj]; exact feq_rf _
  have hv2 : Vw X X2 m := fun j hj => (hv1 j hj).tr (hv j hj)
  refine v_aload_n hC dL_acts_0 0 rfl ?_
  refine v_bipush (v := 9) hC dL_acts_1 (by decide) ?_
  refine v_callVr (v := .int (cntC X m t 0 9)) (C2 := CC Λ X Y) (As := [.int 9]) (rest := []) hC 1 197 (c_X4_count Λ X Y (v := 9) hm0 hm hp0 ht4 hl0 (Nat.zero_le _)) (nR_of (by decide)) (cc_197 Λ X Y) rfl gL_acts_X4_count rfl rfl rfl hd_X4_count ⟨by decide, by decide⟩ rfl rfl (Nat.le_of_ble_eq_true rfl) dL_acts_3 ?_
  refine v_topi (y := nI t) (ct_9 X m t 0) ?_
  refine v_istore (lv' := [(4, .int (nI t)), (0, rf Λ 197), (1, .int z), (2, .int p), (3, rf Λ 204)]) hC dL_acts_6 (by decide) rfl ?_
  refine v_aload_n hC dL_acts_8 1 rfl ?_
  refine v_iconst (v := 0) hC dL_acts_9 (by decide) ?_
  refine v_callVr (v := .int (cntC X m t 0 0)) (C2 := CC Λ X Y) (As := [.int 0]) (rest := []) hC 1 197 (c_X4_count Λ X Y (v := 0) hm0 hm hp0 ht4 hl0 (Nat.zero_le _)) (nR_of (by decide)) (cc_197 Λ X Y) rfl gL_acts_X4_count rfl rfl rfl hd_X4_count ⟨by decide, by decide⟩ rfl rfl (Nat.le_of_ble_eq_true rfl) dL_acts_10 ?_
  refine v_topi (y := nI m) (ct_0 X m t 0) ?_
  refine v_istore (lv' := [(5, .int (nI m)), (4, .int (nI t)), (0, rf Λ 197), (1, .int z), (2, .int p), (3, rf Λ 204)]) hC dL_acts_13 (by decide) rfl ?_
  refine v_iload_n hC dL_acts_15 3 rfl ?_
  refine v_iload hC dL_acts_16 0 rfl ?_
  refine v_callSr (v := .int (nI (upN z m))) (C2 := CC Λ X Y) (As := [.int z, .int (nI m)]) (rest := []) hC 2 (c_L_up Λ X Y (x := z) (n := m) (by omega) (by omega)) gL_acts_L_up rfl rfl rfl hd_L_up ⟨by decide, by decide⟩ rfl rfl (Nat.le_of_ble_eq_true rfl) dL_acts_18 ?_
  refine v_istore (lv' := [(6, .int (nI (upN z m))), (5, .int (nI m)), (4, .int (nI t)), (0, rf Λ 197), (1, .int z), (2, .int p), (3, rf Λ 204)]) hC dL_acts_21 (by decide) rfl ?_
  refine v_aload_n hC dL_acts_23 3 rfl ?_
  refine v_callSr (v := .long (markX X m t 0)) (C2 := CC Λ X Y) (As := [rf Λ 197]) (rest := []) hC 1 (c_L_mark Λ X Y hm0 hm hp0 ht4 hl0) gL_acts_L_mark rfl rfl rfl hd_L_mark ⟨by decide, by decide⟩ rfl rfl (Nat.le_of_ble_eq_true rfl) dL_acts_24 ?_
  refine v_lstore (lv' := [(7, .long (markX X m t 0)), (6, .int (nI (upN z m))), (5, .int (nI m)), (4, .int (nI t)), (0, rf Λ 197), (1, .int z), (2, .int p), (3, rf Λ 204)]) hC dL_acts_27 (by decide) rfl ?_
  refine v_aload_n hC dL_acts_29 7 rfl ?_
  refine v_iload hC dL_acts_30 1 rfl ?_
  refine v_iald hC 204 (nR_of (by decide)) (cc_204 Λ X Y) (upN z m) rfl (by omega) (by decide) dL_acts_32 ?_
  refine v_istore (lv' := [(9, .int (Y (upN z m))), (7, .long (markX X m t 0)), (6, .int (nI (upN z m))), (5, .int (nI m)), (4, .int (nI t)), (0, rf Λ 197), (1, .int z), (2, .int p), (3, rf Λ 204)]) hC dL_acts_33 (by decide) rfl ?_
  refine v_aload_n hC dL_acts_35 5 rfl ?_
  refine v_iload hC dL_acts_36 2 rfl ?_
  refine v_callVr (v := .int tl) (C2 := CC Λ (xFi X 36 f6) Y) (As := [.int (nI (upN z m))]) (rest := []) hC 1 197 (con_E (c_X4_tollToDock Λ X Y (s := nI (upN z m)) hm0 hm) ht) (nR_of (by decide)) (cc_197 Λ X Y) rfl gL_acts_X4_tollToDock rfl rfl rfl hd_X4_tollToDock ⟨by decide, by decide⟩ rfl rfl (Nat.le_of_ble_eq_true rfl) dL_acts_38 ?_
  refine v_istore (lv' := [(10, .int tl), (9, .int (Y (upN z m))), (7, .long (markX X m t 0)), (6, .int (nI (upN z m))), (5, .int (nI m)), (4, .int (nI t)), (0, rf Λ 197), (1, .int z), (2, .int p), (3, rf Λ 204)]) hC dL_acts_41 (by decide) rfl ?_
  refine v_aload_n hC dL_acts_43 6 rfl ?_
  refine v_iload hC dL_acts_44 3 rfl ?_
  refine v_iconst (v := 0) hC dL_acts_46 (by decide) ?_
  refine v_callVr (v := .int (setC (xFi X 36 f6) m (nI (upN z m)) 0)) (C2 := CC Λ (xFi X 36 f6) Y) (As := [.int (nI (upN z m)), .int 0]) (rest := []) hC 2 197 (c_X4_set Λ (xFi X 36 f6) Y (s := nI (upN z m)) (v := 0) hm0 hm) (nR_of (by decide)) (cc_197 Λ (xFi X 36 f6) Y) rfl gL_acts_X4_set rfl rfl rfl hd_X4_set ⟨by decide, by decide⟩ rfl rfl (Nat.le_of_ble_eq_true rfl) dL_acts_47 ?_
  refine v_topi (y := sz (X.1 (upN z m))) (by rw [set_T hs hm, e36 _ hs]; exact se_0 _) ?_
  refine v_istore (lv' := [(11, .int (sz (X.1 (upN z m)))), (10, .int tl), (9, .int (Y (upN z m))), (7, .long (markX X m t 0)), (6, .int (nI (upN z m))), (5, .int (nI m)), (4, .int (nI t)), (0, rf Λ 197), (1, .int z), (2, .int p), (3, rf Λ 204)]) hC dL_acts_50 (by decide) rfl ?_
  refine v_iload_n hC dL_acts_52 8 rfl ?_
  refine v_iconst (v := 3) hC dL_acts_53 (by decide) ?_
  refine v_ishr (x := z) (y := 3) hC dL_acts_54 ?_
  refine v_bipush (v := 11) hC dL_acts_55 (by decide) ?_
  refine v_topi (y := nI 11) rfl ?_
  refine v_callSr (v := .int (nI (upN (z >>> (3 &&& 31)) 11))) (C2 := CC Λ (xFi X 36 f6) Y) (As := [.int (z >>> (3 &&& 31)), .int (nI 11)]) (rest := []) hC 2 (c_L_up Λ (xFi X 36 f6) Y (x := z >>> (3 &&& 31)) (n := 11) (by decide) (by decide)) gL_acts_L_up rfl rfl rfl hd_L_up ⟨by decide, by decide⟩ rfl rfl (Nat.le_of_ble_eq_true rfl) dL_acts_57 ?_
  refine v_istore (lv' := [(12, .int (nI (upN (z >>> (3 &&& 31)) 11))), (11, .int (sz (X.1 (upN z m)))), (10, .int tl), (9, .int (Y (upN z m))), (7, .long (markX X m t 0)), (6, .int (nI (upN z m))), (5, .int (nI m)), (4, .int (nI t)), (0, rf Λ 197), (1, .int z), (2, .int p), (3, rf Λ 204)]) hC dL_acts_60 (by decide) rfl ?_
  refine v_aload_n hC dL_acts_62 8 rfl ?_
  refine v_iload_n hC dL_acts_63 9 rfl ?_
  refine v_iload_n hC dL_acts_64 10 rfl ?_
  refine v_aload_n hC dL_acts_65 11 rfl ?_
  refine v_callSr (v := .int d) (C2 := CC Λ X2 g2) (As := [rf Λ 197, .int z, .int p, rf Λ 204]) (rest := []) hC 4 hc gL_acts_L_act rfl rfl rfl hd_L_act ⟨by decide, by decide⟩ rfl rfl (Nat.le_of_ble_eq_true rfl) dL_acts_66 ?_
  refine v_istore (lv' := [(13, .int d), (12, .int (nI (upN (z >>> (3 &&& 31)) 11))), (11, .int (sz (X.1 (upN z m)))), (10, .int tl), (9, .int (Y (upN z m))), (7, .long (markX X m t 0)), (6, .int (nI (upN z m))), (5, .int (nI m)), (4, .int (nI t)), (0, rf Λ 197), (1, .int z), (2, .int p), (3, rf Λ 204)]) hC dL_acts_69 (by decide) rfl ?_
  refine v_iload hC dL_acts_71 0 rfl ?_
  refine v_if_ge (tgt := 103) hC dL_acts_73 (by decide) (fun zz => absurd zz (fun y => absurd hd (Int32.not_lt.mpr y))) (fun _ => ?_)
  refine v_aload_n hC dL_acts_76 9 rfl ?_
  refine v_callSr (v := .long (markX X2 m t 0)) (C2 := CC Λ X2 g2) (As := [rf Λ 197]) (rest := []) hC 1 (c_L_mark Λ X2 g2 jm0 jm jp0 jt4 jl0) gL_acts_L_mark rfl rfl rfl hd_L_mark ⟨by decide, by decide⟩ rfl rfl (Nat.le_of_ble_eq_true rfl) dL_acts_77 ?_
  refine v_topl (y := markX X m t 0) (mark_vw hv2 hm) ?_
  refine v_lload hC dL_acts_80 5 rfl ?_
  refine v_lcmp hC dL_acts_82 ?_
  refine v_topi (y := 0) (lgc_self _) ?_
  refine v_if_ne (tgt := 101) hC dL_acts_83 (by decide) (fun zz => absurd rfl zz) (fun _ => ?_)
  refine v_aload_n hC dL_acts_86 9 rfl ?_
  refine v_bipush (v := 9) hC dL_acts_87 (by decide) ?_
  refine v_callVr (v := .int (cntC X2 m t 0 9)) (C2 := CC Λ X2 g2) (As := [.int 9]) (rest := []) hC 1 197 (c_X4_count Λ X2 g2 (v := 9) jm0 jm jp0 jt4 jl0 (Nat.zero_le _)) (nR_of (by decide)) (cc_197 Λ X2 g2) rfl gL_acts_X4_count rfl rfl rfl hd_X4_count ⟨by decide, by decide⟩ rfl rfl (Nat.le_of_ble_eq_true rfl) dL_acts_89 ?_
  refine v_topi (y := nI t) (ct_9 X2 m t 0) ?_
  refine v_iload hC dL_acts_92 8 rfl ?_
  refine v_icmp_ne (tgt := 101) hC dL_acts_94 (by decide) (fun zz => absurd rfl zz) (fun _ => ?_)
  refine v_iconst (v := 1) hC dL_acts_97 (by decide) ?_
  refine v_goto (tgt := 102) hC dL_acts_98 (by decide) ?_
  exact v_zret hC hR rfl rfl rfl dL_acts_102
set_option maxHeartbeats 400000 in
set_option maxRecDepth 100000 in
theorem c_acts_s (Λ : Lk) (X : XS) (Y : YS) {m t : Nat} {z p : Int32} (h : Inv X Y m t) (h1 : 0 < m) {f6 : FR} {tl d : Int32} {X2 : XS} {g2 : YS} (ht : tollX X m (nI (upN z m)) = (tl, (xFi X 36 f6))) (hc : Con Λ yL_act wsL_act { frames := 7, cells := 0, slots := 0, locals := 173 } [rf Λ 197, .int z, .int p, rf Λ 204] (CC Λ (xFi X 36 f6) Y) (some (.int d)) (CC Λ X2 g2)) (hd : ¬ d < 0) {m' : Nat} (hmm : m ≤ m') (h2 : Inv X2 g2 m' (phZ t)) (kr : KR (upN (z >>> (3 &&& 31)) 11) (X.1 (upN z m)) (X2.1 (upN z m)) d) (htl : tl = (ehF 8 (faS (X.1 (upN z m)) false) 0 0).2) (hz : ¬ z >>> (20 &&& 31) &&& 3 ≤ 0) : Con Λ yL_acts wsL_acts { frames := 8, cells := 0, slots := 0, locals := 204 } [rf Λ 197, .int z, .int p, rf Λ 204] (CC Λ X Y) (some (.int 1)) (CC Λ X2 g2) := by
  refine con_start (cc := cL_acts) (maxL := 16) (ret := (some .boolean)) (by decide) rfl (Nat.le_of_ble_eq_true rfl) ?_
  intro κ hC hR
  have hC : Ok Λ { frames := 8, cells := 0, slots := 0, locals := 204 } cL_acts wsL_acts RL 16 κ := hC
  refine v_args (lv' := [(0, rf Λ 197), (1, .int z), (2, .int p), (3, rf Λ 204)]) rfl ?_
  have hm0 := h.1.1
  have hm := h.1.2
  have hp0 := h.2.2.1.1
  have ht4 := h.2.2.1.2.1
  have hq := h.2.2.1.2.2.1
  have hl0 := h.2.2.2.2.1
  have jm0 := h2.1.1
  have jm := h2.1.2
  have jp0 := h2.2.2.1.1
  have jt4 := h2.2.2.1.2.1
  have jq := h2.2.2.1.2.2.1
  have jl0 := h2.2.2.2.2.1
  have hs : upN z m < m := upN_lt z h1
  have e36 : ∀ j, j < m → (xFi X 36 f6).1 j = X.1 j := fun j hj => xFi_ne X f6 (by omega)
  have hv1 : Vw X (xFi X 36 f6) m := fun j hj => by rw [e36 j hj]; exact feq_rf _
  have hk : upN (z >>> (3 &&& 31)) 11 < 11 := upN_lt _ (by decide)
  refine v_aload_n hC dL_acts_0 0 rfl ?_
  refine v_bipush (v := 9) hC dL_acts_1 (by decide) ?_
  refine v_callVr (v := .int (cntC X m t 0 9)) (C2 := CC Λ X Y) (As := [.int 9]) (rest := []) hC 1 197 (c_X4_count Λ X Y (v := 9) hm0 hm hp0 ht4 hl0 (Nat.zero_le _)) (nR_of (by decide)) (cc_197 Λ X Y) rfl gL_acts_X4_count rfl rfl rfl hd_X4_count ⟨by decide, by decide⟩ rfl rfl (Nat.le_of_ble_eq_true rfl) dL_acts_3 ?_
  refine v_topi (y := nI t) (ct_9 X m t 0) ?_
  refine v_istore (lv' := [(4, .int (nI t)), (0, rf Λ 197), (1, .int z), (2, .int p), (3, rf Λ 204)]) hC dL_acts_6 (by decide) rfl ?_
  refine v_aload_n hC dL_acts_8 1 rfl ?_
  refine v_iconst (v := 0) hC dL_acts_9 (by decide) ?_
  refine v_callVr (v := .int (cntC X m t 0 0)) (C2 := CC Λ X Y) (As := [.int 0]) (rest := []) hC 1 197 (c_X4_count Λ X Y (v := 0) hm0 hm hp0 ht4 hl0 (Nat.zero_le _)) (nR_of (by decide)) (cc_197 Λ X Y) rfl gL_acts_X4_count rfl rfl rfl hd_X4_count ⟨by decide, by decide⟩ rfl rfl (Nat.le_of_ble_eq_true rfl) dL_acts_10 ?_
  refine v_topi (y := nI m) (ct_0 X m t 0) ?_
  refine v_istore (lv' := [(5, .int (nI m)), (4, .int (nI t)), (0, rf Λ 197), (1, .int z), (2, .int p), (3, rf Λ 204)]) hC dL_acts_13 (by decide) rfl ?_
  refine v_iload_n hC dL_acts_15 3 rfl ?_
  refine v_iload hC dL_acts_16 0 rfl ?_
  refine v_callSr (v := .int (nI (upN z m))) (C2 := CC Λ X Y) (As := [.int z, .int (nI m)]) (rest := []) hC 2 (c_L_up Λ X Y (x := z) (n := m) (by omega) (by omega)) gL_acts_L_up rfl rfl rfl hd_L_up ⟨by decide, by decide⟩ rfl rfl (Nat.le_of_ble_eq_true rfl) dL_acts_18 ?_
  refine v_istore (lv' := [(6, .int (nI (upN z m))), (5, .int (nI m)), (4, .int (nI t)), (0, rf Λ 197), (1, .int z), (2, .int p), (3, rf Λ 204)]) hC dL_acts_21 (by decide) rfl ?_
  refine v_aload_n hC dL_acts_23 3 rfl ?_
  refine v_callSr (v := .long (markX X m t 0)) (C2 := CC Λ X Y) (As := [rf Λ 197]) (rest := []) hC 1 (c_L_mark Λ X Y hm0 hm hp0 ht4 hl0) gL_acts_L_mark rfl rfl rfl hd_L_mark ⟨by decide, by decide⟩ rfl rfl (Nat.le_of_ble_eq_true rfl) dL_acts_24 ?_
  refine v_lstore (lv' := [(7, .long (markX X m t 0)), (6, .int (nI (upN z m))), (5, .int (nI m)), (4, .int (nI t)), (0, rf Λ 197), (1, .int z), (2, .int p), (3, rf Λ 204)]) hC dL_acts_27 (by decide) rfl ?_
  refine v_aload_n hC dL_acts_29 7 rfl ?_
  refine v_iload hC dL_acts_30 1 rfl ?_
  refine v_iald hC 204 (nR_of (by decide)) (cc_204 Λ X Y) (upN z m) rfl (by omega) (by decide) dL_acts_32 ?_
  refine v_istore (lv' := [(9, .int (Y (upN z m))), (7, .long (markX X m t 0)), (6, .int (nI (upN z m))), (5, .int (nI m)), (4, .int (nI t)), (0, rf Λ 197), (1, .int z), (2, .int p), (3, rf Λ 204)]) hC dL_acts_33 (by decide) rfl ?_
  refine v_aload_n hC dL_acts_35 5 rfl ?_
  refine v_iload hC dL_acts_36 2 rfl ?_
  refine v_callVr (v := .int tl) (C2 := CC Λ (xFi X 36 f6) Y) (As := [.int (nI (upN z m))]) (rest := []) hC 1 197 (con_E (c_X4_tollToDock Λ X Y (s := nI (upN z m)) hm0 hm) ht) (nR_of (by decide)) (cc_197 Λ X Y) rfl gL_acts_X4_tollToDock rfl rfl rfl hd_X4_tollToDock ⟨by decide, by decide⟩ rfl rfl (Nat.le_of_ble_eq_true rfl) dL_acts_38 ?_
  refine v_istore (lv' := [(10, .int tl), (9, .int (Y (upN z m))), (7, .long (markX X m t 0)), (6, .int (nI (upN z m))), (5, .int (nI m)), (4, .int (nI t)), (0, rf Λ 197), (1, .int z), (2, .int p), (3, rf Λ 204)]) hC dL_acts_41 (by decide) rfl ?_
  refine v_aload_n hC dL_acts_43 6 rfl ?_
  refine v_iload hC dL_acts_44 3 rfl ?_
  refine v_iconst (v := 0) hC dL_acts_46 (by decide) ?_
  refine v_callVr (v := .int (setC (xFi X 36 f6) m (nI (upN z m)) 0)) (C2 := CC Λ (xFi X 36 f6) Y) (As := [.int (nI (upN z m)), .int 0]) (rest := []) hC 2 197 (c_X4_set Λ (xFi X 36 f6) Y (s := nI (upN z m)) (v := 0) hm0 hm) (nR_of (by decide)) (cc_197 Λ (xFi X 36 f6) Y) rfl gL_acts_X4_set rfl rfl rfl hd_X4_set ⟨by decide, by decide⟩ rfl rfl (Nat.le_of_ble_eq_true rfl) dL_acts_47 ?_
  refine v_topi (y := sz (X.1 (upN z m))) (by rw [set_T hs hm, e36 _ hs]; exact se_0 _) ?_
  refine v_istore (lv' := [(11, .int (sz (X.1 (upN z m)))), (10, .int tl), (9, .int (Y (upN z m))), (7, .long (markX X m t 0)), (6, .int (nI (upN z m))), (5, .int (nI m)), (4, .int (nI t)), (0, rf Λ 197), (1, .int z), (2, .int p), (3, rf Λ 204)]) hC dL_acts_50 (by decide) rfl ?_
  refine v_iload_n hC dL_acts_52 8 rfl ?_
  refine v_iconst (v := 3) hC dL_acts_53 (by decide) ?_
  refine v_ishr (x := z) (y := 3) hC dL_acts_54 ?_
  refine v_bipush (v := 11) hC dL_acts_55 (by decide) ?_
  refine v_topi (y := nI 11) rfl ?_
  refine v_callSr (v := .int (nI (upN (z >>> (3 &&& 31)) 11))) (C2 := CC Λ (xFi X 36 f6) Y) (As := [.int (z >>> (3 &&& 31)), .int (nI 11)]) (rest := []) hC 2 (c_L_up Λ (xFi X 36 f6) Y (x := z >>> (3 &&& 31)) (n := 11) (by decide) (by decide)) gL_acts_L_up rfl rfl rfl hd_L_up ⟨by decide, by decide⟩ rfl rfl (Nat.le_of_ble_eq_true rfl) dL_acts_57 ?_
  refine v_istore (lv' := [(12, .int (nI (upN (z >>> (3 &&& 31)) 11))), (11, .int (sz (X.1 (upN z m)))), (10, .int tl), (9, .int (Y (upN z m))), (7, .long (markX X m t 0)), (6, .int (nI (upN z m))), (5, .int (nI m)), (4, .int (nI t)), (0, rf Λ 197), (1, .int z), (2, .int p), (3, rf Λ 204)]) hC dL_acts_60 (by decide) rfl ?_
  refine v_aload_n hC dL_acts_62 8 rfl ?_
  refine v_iload_n hC dL_acts_63 9 rfl ?_
  refine v_iload_n hC dL_acts_64 10 rfl ?_
  refine v_aload_n hC dL_acts_65 11 rfl ?_
  refine v_callSr (v := .int d) (C2 := CC Λ X2 g2) (As := [rf Λ 197, .int z, .int p, rf Λ 204]) (rest := []) hC 4 hc gL_acts_L_act rfl rfl rfl hd_L_act ⟨by decide, by decide⟩ rfl rfl (Nat.le_of_ble_eq_true rfl) dL_acts_66 ?_
  refine v_istore (lv' := [(13, .int d), (12, .int (nI (upN (z >>> (3 &&& 31)) 11))), (11, .int (sz (X.1 (upN z m)))), (10, .int tl), (9, .int (Y (upN z m))), (7, .long (markX X m t 0)), (6, .int (nI (upN z m))), (5, .int (nI m)), (4, .int (nI t)), (0, rf Λ 197), (1, .int z), (2, .int p), (3, rf Λ 204)]) hC dL_acts_69 (by decide) rfl ?_
  refine v_iload hC dL_acts_71 0 rfl ?_
  refine v_if_ge (tgt := 103) hC dL_acts_73 (by decide) (fun _ => ?_) (fun zz => absurd (Int32.not_lt.mp hd) zz)
  refine v_aload_n hC dL_acts_103 9 rfl ?_
  refine v_iload hC dL_acts_104 6 rfl ?_
  refine v_iconst (v := 0) hC dL_acts_106 (by decide) ?_
  refine v_callVr (v := .int (setC X2 m' (nI (upN z m)) 0)) (C2 := CC Λ X2 g2) (As := [.int (nI (upN z m)), .int 0]) (rest := []) hC 2 197 (c_X4_set Λ X2 g2 (s := nI (upN z m)) (v := 0) jm0 jm) (nR_of (by decide)) (cc_197 Λ X2 g2) rfl gL_acts_X4_set rfl rfl rfl hd_X4_set ⟨by decide, by decide⟩ rfl rfl (Nat.le_of_ble_eq_true rfl) dL_acts_107 ?_
  refine v_topi (y := sz (X2.1 (upN z m))) (by rw [set_T (show (upN z m) < m' by omega) jm]; exact se_0 _) ?_
  refine v_istore (lv' := [(14, .int (sz (X2.1 (upN z m)))), (13, .int d), (12, .int (nI (upN (z >>> (3 &&& 31)) 11))), (11, .int (sz (X.1 (upN z m)))), (10, .int tl), (9, .int (Y (upN z m))), (7, .long (markX X m t 0)), (6, .int (nI (upN z m))), (5, .int (nI m)), (4, .int (nI t)), (0, rf Λ 197), (1, .int z), (2, .int p), (3, rf Λ 204)]) hC dL_acts_110 (by decide) rfl ?_
  have J262 : V Λ κ (CC Λ X2 g2) 262 [(14, .int (sz (X2.1 (upN z m)))), (13, .int d), (12, .int (nI (upN (z >>> (3 &&& 31)) 11))), (11, .int (sz (X.1 (upN z m)))), (10, .int tl), (9, .int (Y (upN z m))), (7, .long (markX X m t 0)), (6, .int (nI (upN z m))), (5, .int (nI m)), (4, .int (nI t)), (0, rf Λ 197), (1, .int z), (2, .int p), (3, rf Λ 204)] [] := by
    refine v_iconst (v := 1) hC dL_acts_262 (by decide) ?_
    refine v_goto (tgt := 267) hC dL_acts_263 (by decide) ?_
    refine v_istore (lv' := [(15, .int 1), (14, .int (sz (X2.1 (upN z m)))), (13, .int d), (12, .int (nI (upN (z >>> (3 &&& 31)) 11))), (11, .int (sz (X.1 (upN z m)))), (10, .int tl), (9, .int (Y (upN z m))), (7, .long (markX X m t 0)), (6, .int (nI (upN z m))), (5, .int (nI m)), (4, .int (nI t)), (0, rf Λ 197), (1, .int z), (2, .int p), (3, rf Λ 204)]) hC dL_acts_267 (by decide) rfl ?_
    refine v_iload hC dL_acts_269 0 rfl ?_
    refine v_if_eq (tgt := 283) hC dL_acts_271 (by decide) (fun zz => absurd zz (show ¬ (1 : Int32) = 0 by decide)) (fun _ => ?_)
    refine v_iload_n hC dL_acts_274 12 rfl ?_
    refine v_bipush (v := 20) hC dL_acts_275 (by decide) ?_
    refine v_ishr (x := z) (y := 20) hC dL_acts_277 ?_
    refine v_iconst (v := 3) hC dL_acts_278 (by decide) ?_
    refine v_iand (x := z >>> (20 &&& 31)) (y := 3) hC dL_acts_279 ?_
    refine v_if_le (tgt := 286) hC dL_acts_280 (by decide) (fun zz => absurd zz hz) (fun _ => ?_)
    refine v_iload hC dL_acts_283 0 rfl ?_
    exact v_zret hC hR rfl rfl rfl dL_acts_285
  have J241 : V Λ κ (CC Λ X2 g2) 241 [(14, .int (sz (X2.1 (upN z m)))), (13, .int d), (12, .int (nI (upN (z >>> (3 &&& 31)) 11))), (11, .int (sz (X.1 (upN z m)))), (10, .int tl), (9, .int (Y (upN z m))), (7, .long (markX X m t 0)), (6, .int (nI (upN z m))), (5, .int (nI m)), (4, .int (nI t)), (0, rf Λ 197), (1, .int z), (2, .int p), (3, rf Λ 204)] [] := by
    refine v_iload hC dL_acts_241 2 rfl ?_
    refine v_bipush (v := 6) hC dL_acts_243 (by decide) ?_
    refine v_icmp_lt (tgt := 262) hC dL_acts_245 (by decide) (fun c245 => ?_) (fun c245 => ?_)
    · exact J262
    · have g245 : 6 ≤ upN (z >>> (3 &&& 31)) 11 := Nat.le_of_not_lt (fun y => c245 ((nI_ltI (b := 6) (by omega) (by decide)).mpr y))
      refine v_iload hC dL_acts_248 2 rfl ?_
      refine v_bipush (v := 8) hC dL_acts_250 (by decide) ?_
      refine v_icmp_eq (tgt := 262) hC dL_acts_252 (by decide) (fun c252 => ?_) (fun c252 => ?_)
      · exact J262
      · have g252 : upN (z >>> (3 &&& 31)) 11 ≠ 8 := fun y => c252 (by rw [y]; rfl)
        refine v_iload hC dL_acts_255 0 rfl ?_
        refine v_iload hC dL_acts_257 3 rfl ?_
        refine v_icmp_ne (tgt := 266) hC dL_acts_259 (by decide) (fun zz => absurd (kr.2.2.2.2.2.2 g245 g252) zz) (fun _ => ?_)
        exact J262
  have J227 : V Λ κ (CC Λ X2 g2) 227 [(14, .int (sz (X2.1 (upN z m)))), (13, .int d), (12, .int (nI (upN (z >>> (3 &&& 31)) 11))), (11, .int (sz (X.1 (upN z m)))), (10, .int tl), (9, .int (Y (upN z m))), (7, .long (markX X m t 0)), (6, .int (nI (upN z m))), (5, .int (nI m)), (4, .int (nI t)), (0, rf Λ 197), (1, .int z), (2, .int p), (3, rf Λ 204)] [] := by
    refine v_iload hC dL_acts_227 2 rfl ?_
    refine v_bipush (v := 8) hC dL_acts_229 (by decide) ?_
    refine v_icmp_ne (tgt := 241) hC dL_acts_231 (by decide) (fun c231 => ?_) (fun c231 => ?_)
    · exact J241
    · have g231 : upN (z >>> (3 &&& 31)) 11 = 8 := (nI_eq (a := upN (z >>> (3 &&& 31)) 11) (b := 8) (by omega) (by decide)).mp c231
      refine v_iload hC dL_acts_234 0 rfl ?_
      refine v_iload hC dL_acts_236 1 rfl ?_
      refine v_icmp_ne (tgt := 266) hC dL_acts_238 (by decide) (fun zz => absurd (kr.2.2.2.2.2.1 g231) zz) (fun _ => ?_)
      exact J241
  have J203 : V Λ κ (CC Λ X2 g2) 203 [(14, .int (sz (X2.1 (upN z m)))), (13, .int d), (12, .int (nI (upN (z >>> (3 &&& 31)) 11))), (11, .int (sz (X.1 (upN z m)))), (10, .int tl), (9, .int (Y (upN z m))), (7, .long (markX X m t 0)), (6, .int (nI (upN z m))), (5, .int (nI m)), (4, .int (nI t)), (0, rf Λ 197), (1, .int z), (2, .int p), (3, rf Λ 204)] [] := by
    refine v_iload hC dL_acts_203 2 rfl ?_
    refine v_bipush (v := 7) hC dL_acts_205 (by decide) ?_
    refine v_icmp_ne (tgt := 227) hC dL_acts_207 (by decide) (fun c207 => ?_) (fun c207 => ?_)
    · exact J227
    · have g207 : upN (z >>> (3 &&& 31)) 11 = 7 := (nI_eq (a := upN (z >>> (3 &&& 31)) 11) (b := 7) (by omega) (by decide)).mp c207
      refine v_iload hC dL_acts_210 1 rfl ?_
      refine v_iload hC dL_acts_212 4 rfl ?_
      refine v_icmp_ne (tgt := 266) hC dL_acts_214 (by decide) (fun zz => absurd ((kr.2.2.2.2.1 g207).1.trans htl.symm) zz) (fun _ => ?_)
      refine v_aload_n hC dL_acts_217 10 rfl ?_
      refine v_iload hC dL_acts_218 7 rfl ?_
      refine v_iconst (v := 4) hC dL_acts_220 (by decide) ?_
      refine v_callVr (v := .int (setC X2 m' (nI (upN z m)) 4)) (C2 := CC Λ X2 g2) (As := [.int (nI (upN z m)), .int 4]) (rest := []) hC 2 197 (c_X4_set Λ X2 g2 (s := nI (upN z m)) (v := 4) jm0 jm) (nR_of (by decide)) (cc_197 Λ X2 g2) rfl gL_acts_X4_set rfl rfl rfl hd_X4_set ⟨by decide, by decide⟩ rfl rfl (Nat.le_of_ble_eq_true rfl) dL_acts_221 ?_
      refine v_topi (y := 0) (by rw [set_T (show (upN z m) < m' by omega) jm, se_4, (kr.2.2.2.2.1 g207).2]; rfl) ?_
      refine v_if_ne (tgt := 266) hC dL_acts_224 (by decide) (fun zz => absurd rfl zz) (fun _ => ?_)
      exact J227
  have J187 : V Λ κ (CC Λ X2 g2) 187 [(14, .int (sz (X2.1 (upN z m)))), (13, .int d), (12, .int (nI (upN (z >>> (3 &&& 31)) 11))), (11, .int (sz (X.1 (upN z m)))), (10, .int tl), (9, .int (Y (upN z m))), (7, .long (markX X m t 0)), (6, .int (nI (upN z m))), (5, .int (nI m)), (4, .int (nI t)), (0, rf Λ 197), (1, .int z), (2, .int p), (3, rf Λ 204)] [] := by
    refine v_iload hC dL_acts_187 2 rfl ?_
    refine v_iconst (v := 5) hC dL_acts_189 (by decide) ?_
    refine v_icmp_ne (tgt := 203) hC dL_acts_190 (by decide) (fun c190 => ?_) (fun c190 => ?_)
    · exact J203
    · have g190 : upN (z >>> (3 &&& 31)) 11 = 5 := (nI_eq (a := upN (z >>> (3 &&& 31)) 11) (b := 5) (by omega) (by decide)).mp c190
      refine v_iload hC dL_acts_193 0 rfl ?_
      refine v_iload hC dL_acts_195 3 rfl ?_
      refine v_iload hC dL_acts_197 1 rfl ?_
      refine v_isub (x := sz (X.1 (upN z m))) (y := d) hC dL_acts_199 ?_
      refine v_icmp_ne (tgt := 266) hC dL_acts_200 (by decide) (fun zz => absurd (kr.2.2.2.1 g190) zz) (fun _ => ?_)
      exact J203
  have J165 : V Λ κ (CC Λ X2 g2) 165 [(14, .int (sz (X2.1 (upN z m)))), (13, .int d), (12, .int (nI (upN (z >>> (3 &&& 31)) 11))), (11, .int (sz (X.1 (upN z m)))), (10, .int tl), (9, .int (Y (upN z m))), (7, .long (markX X m t 0)), (6, .int (nI (upN z m))), (5, .int (nI m)), (4, .int (nI t)), (0, rf Λ 197), (1, .int z), (2, .int p), (3, rf Λ 204)] [] := by
    refine v_iload hC dL_acts_165 2 rfl ?_
    refine v_iconst (v := 3) hC dL_acts_167 (by decide) ?_
    refine v_icmp_eq (tgt := 177) hC dL_acts_168 (by decide) (fun c168 => ?_) (fun c168 => ?_)
    · have g168 : upN (z >>> (3 &&& 31)) 11 = 3 := (nI_eq (a := upN (z >>> (3 &&& 31)) 11) (b := 3) (by omega) (by decide)).mp c168
      have g34 : upN (z >>> (3 &&& 31)) 11 = 3 ∨ upN (z >>> (3 &&& 31)) 11 = 4 := Or.inl g168
      refine v_iload hC dL_acts_177 0 rfl ?_
      refine v_iload hC dL_acts_179 3 rfl ?_
      refine v_iload hC dL_acts_181 1 rfl ?_
      refine v_iadd (x := sz (X.1 (upN z m))) (y := d) hC dL_acts_183 ?_
      refine v_icmp_ne (tgt := 266) hC dL_acts_184 (by decide) (fun zz => absurd (kr.2.2.1 g34) zz) (fun _ => ?_)
      exact J187
    · refine v_iload hC dL_acts_171 2 rfl ?_
      refine v_iconst (v := 4) hC dL_acts_173 (by decide) ?_
      refine v_icmp_ne (tgt := 187) hC dL_acts_174 (by decide) (fun c174 => ?_) (fun c174 => ?_)
      · exact J187
      · have g174 : upN (z >>> (3 &&& 31)) 11 = 4 := (nI_eq (a := upN (z >>> (3 &&& 31)) 11) (b := 4) (by omega) (by decide)).mp c174
        have g34 : upN (z >>> (3 &&& 31)) 11 = 3 ∨ upN (z >>> (3 &&& 31)) 11 = 4 := Or.inr g174
        refine v_iload hC dL_acts_177 0 rfl ?_
        refine v_iload hC dL_acts_179 3 rfl ?_
        refine v_iload hC dL_acts_181 1 rfl ?_
        refine v_iadd (x := sz (X.1 (upN z m))) (y := d) hC dL_acts_183 ?_
        refine v_icmp_ne (tgt := 266) hC dL_acts_184 (by decide) (fun zz => absurd (kr.2.2.1 g34) zz) (fun _ => ?_)
        exact J187
  have J150 : V Λ κ (CC Λ X2 g2) 150 [(14, .int (sz (X2.1 (upN z m)))), (13, .int d), (12, .int (nI (upN (z >>> (3 &&& 31)) 11))), (11, .int (sz (X.1 (upN z m)))), (10, .int tl), (9, .int (Y (upN z m))), (7, .long (markX X m t 0)), (6, .int (nI (upN z m))), (5, .int (nI m)), (4, .int (nI t)), (0, rf Λ 197), (1, .int z), (2, .int p), (3, rf Λ 204)] [] := by
    refine v_iload hC dL_acts_150 2 rfl ?_
    refine v_iconst (v := 2) hC dL_acts_152 (by decide) ?_
    refine v_icmp_ne (tgt := 165) hC dL_acts_153 (by decide) (fun c153 => ?_) (fun c153 => ?_)
    · exact J165
    · have g153 : upN (z >>> (3 &&& 31)) 11 = 2 := (nI_eq (a := upN (z >>> (3 &&& 31)) 11) (b := 2) (by omega) (by decide)).mp c153
      refine v_iload hC dL_acts_156 0 rfl ?_
      refine v_iload hC dL_acts_158 3 rfl ?_
      refine v_iconst (v := 1) hC dL_acts_160 (by decide) ?_
      refine v_isub (x := sz (X.1 (upN z m))) (y := 1) hC dL_acts_161 ?_
      refine v_icmp_ne (tgt := 266) hC dL_acts_162 (by decide) (fun zz => absurd (kr.2.1 g153) zz) (fun _ => ?_)
      exact J165
  have J135 : V Λ κ (CC Λ X2 g2) 135 [(14, .int (sz (X2.1 (upN z m)))), (13, .int d), (12, .int (nI (upN (z >>> (3 &&& 31)) 11))), (11, .int (sz (X.1 (upN z m)))), (10, .int tl), (9, .int (Y (upN z m))), (7, .long (markX X m t 0)), (6, .int (nI (upN z m))), (5, .int (nI m)), (4, .int (nI t)), (0, rf Λ 197), (1, .int z), (2, .int p), (3, rf Λ 204)] [] := by
    refine v_iload hC dL_acts_135 2 rfl ?_
    refine v_iconst (v := 1) hC dL_acts_137 (by decide) ?_
    refine v_icmp_gt (tgt := 150) hC dL_acts_138 (by decide) (fun c138 => ?_) (fun c138 => ?_)
    · exact J150
    · have g138 : upN (z >>> (3 &&& 31)) 11 ≤ 1 := Nat.le_of_not_lt (fun y => c138 ((nI_ltI (a := 1) (by decide) (by omega)).mpr y))
      refine v_iload hC dL_acts_141 0 rfl ?_
      refine v_iload hC dL_acts_143 3 rfl ?_
      refine v_iconst (v := 1) hC dL_acts_145 (by decide) ?_
      refine v_iadd (x := sz (X.1 (upN z m))) (y := 1) hC dL_acts_146 ?_
      refine v_icmp_ne (tgt := 266) hC dL_acts_147 (by decide) (fun zz => absurd (kr.1 g138) zz) (fun _ => ?_)
      exact J150
  refine v_aload_n hC dL_acts_112 10 rfl ?_
  refine v_bipush (v := 9) hC dL_acts_113 (by decide) ?_
  refine v_callVr (v := .int (cntC X2 m' (phZ t) 0 9)) (C2 := CC Λ X2 g2) (As := [.int 9]) (rest := []) hC 1 197 (c_X4_count Λ X2 g2 (v := 9) jm0 jm jp0 jt4 jl0 (Nat.zero_le _)) (nR_of (by decide)) (cc_197 Λ X2 g2) rfl gL_acts_X4_count rfl rfl rfl hd_X4_count ⟨by decide, by decide⟩ rfl rfl (Nat.le_of_ble_eq_true rfl) dL_acts_115 ?_
  refine v_topi (y := nI (phZ t)) (ct_9 X2 m' (phZ t) 0) ?_
  refine v_iload hC dL_acts_118 9 rfl ?_
  refine v_iconst (v := 4) hC dL_acts_120 (by decide) ?_
  refine v_icmp_ge (tgt := 131) hC dL_acts_121 (by decide) (fun c121 => ?_) (fun c121 => ?_)
  · have g121 : t = 4 := by have := (nI_leI (a := 4) (by decide) (by omega)).mp c121; omega
    refine v_iconst (v := 4) hC dL_acts_131 (by decide) ?_
    refine v_icmp_ne (tgt := 266) hC dL_acts_132 (by decide) (fun zz => absurd (show nI (phZ t) = 4 by rw [g121]; rfl) zz) (fun _ => ?_)
    exact J135
  · have g121 : t < 4 := Nat.lt_of_not_le (fun y => c121 ((nI_leI (a := 4) (by decide) (by omega)).mpr y))
    refine v_iload hC dL_acts_124 9 rfl ?_
    refine v_iconst (v := 1) hC dL_acts_126 (by decide) ?_
    refine v_iadd (x := nI t) (y := 1) hC dL_acts_127 ?_
    refine v_topi (y := nI (t + 1)) (nI_add t 1) ?_
    refine v_goto (tgt := 132) hC dL_acts_128 (by decide) ?_
    refine v_icmp_ne (tgt := 266) hC dL_acts_132 (by decide) (fun zz => absurd (show nI (phZ t) = nI (t + 1) by unfold phZ; rw [if_pos g121]) zz) (fun _ => ?_)
    exact J135
set_option maxHeartbeats 400000 in
set_option maxRecDepth 100000 in
theorem c_acts_u (Λ : Lk) (X : XS) (Y : YS) {m t : Nat} {z p : Int32} (h : Inv X Y m t) (h1 : 0 < m) {f6 : FR} {tl d : Int32} {X2 : XS} {g2 : YS} (ht : tollX X m (nI (upN z m)) = (tl, (xFi X 36 f6))) (hc : Con Λ yL_act wsL_act { frames := 7, cells := 0, slots := 0, locals := 173 } [rf Λ 197, .int z, .int p, rf Λ 204] (CC Λ (xFi X 36 f6) Y) (some (.int d)) (CC Λ X2 g2)) (hd : ¬ d < 0) {m' : Nat} (hmm : m ≤ m') (h2 : Inv X2 g2 m' (phZ t)) (kr : KR (upN (z >>> (3 &&& 31)) 11) (X.1 (upN z m)) (X2.1 (upN z m)) d) (htl : tl = (ehF 8 (faS (X.1 (upN z m)) false) 0 0).2) (hz : z >>> (20 &&& 31) &&& 3 ≤ 0) (hb : Bk X2 (xFi X 36 f6) m (phZ t)) {ix : Nat} (hix : ix = if m < 6 then m else 7) (hG : ∀ s, s < m → Gd ((xFi X 36 f6).1 s) ∧ (upd (upd g2 (upN z m) (Y (upN z m))) ix 0) s = fp ((xFi X 36 f6).1 s) + fd ((xFi X 36 f6).1 s)) : Con Λ yL_acts wsL_acts { frames := 8, cells := 0, slots := 0, locals := 204 } [rf Λ 197, .int z, .int p, rf Λ 204] (CC Λ X Y) (some (.int 1)) (CC Λ (popX X2 (phZ t) m) (upd (upd g2 (upN z m) (Y (upN z m))) ix 0)) := by
  refine con_start (cc := cL_acts) (maxL := 16) (ret := (some .boolean)) (by decide) rfl (Nat.le_of_ble_eq_true rfl) ?_
  intro κ hC hR
  have hC : Ok Λ { frames := 8, cells := 0, slots := 0, locals := 204 } cL_acts wsL_acts RL 16 κ := hC
  refine v_args (lv' := [(0, rf Λ 197), (1, .int z), (2, .int p), (3, rf Λ 204)]) rfl ?_
  have hm0 := h.1.1
  have hm := h.1.2
  have hp0 := h.2.2.1.1
  have ht4 := h.2.2.1.2.1
  have hq := h.2.2.1.2.2.1
  have hl0 := h.2.2.2.2.1
  have jm0 := h2.1.1
  have jm := h2.1.2
  have jp0 := h2.2.2.1.1
  have jt4 := h2.2.2.1.2.1
  have jq := h2.2.2.1.2.2.1
  have jl0 := h2.2.2.2.2.1
  have hs : upN z m < m := upN_lt z h1
  have e36 : ∀ j, j < m → (xFi X 36 f6).1 j = X.1 j := fun j hj => xFi_ne X f6 (by omega)
  have hv1 : Vw X (xFi X 36 f6) m := fun j hj => by rw [e36 j hj]; exact feq_rf _
  have hk : upN (z >>> (3 &&& 31)) 11 < 11 := upN_lt _ (by decide)
  have hix8 : ix < 8 := by rw [hix]; split <;> omega
  have ph1 := phZ_1 t
  obtain ⟨i3, hv3⟩ := undo_ok (g2 := (upd (upd g2 (upN z m) (Y (upN z m))) ix 0)) h2 hb hm hG
  have hv2 : Vw X (popX X2 (phZ t) m) m := fun j hj => (hv1 j hj).tr (hv3 j hj)
  have km0 := i3.1.1
  have km := i3.1.2
  have kp0 := i3.2.2.1.1
  have kt4 := i3.2.2.1.2.1
  have kq := i3.2.2.1.2.2.1
  have kl0 := i3.2.2.2.2.1
  refine v_aload_n hC dL_acts_0 0 rfl ?_
  refine v_bipush (v := 9) hC dL_acts_1 (by decide) ?_
  refine v_callVr (v := .int (cntC X m t 0 9)) (C2 := CC Λ X Y) (As := [.int 9]) (rest := []) hC 1 197 (c_X4_count Λ X Y (v := 9) hm0 hm hp0 ht4 hl0 (Nat.zero_le _)) (nR_of (by decide)) (cc_197 Λ X Y) rfl gL_acts_X4_count rfl rfl rfl hd_X4_count ⟨by decide, by decide⟩ rfl rfl (Nat.le_of_ble_eq_true rfl) dL_acts_3 ?_
  refine v_topi (y := nI t) (ct_9 X m t 0) ?_
  refine v_istore (lv' := [(4, .int (nI t)), (0, rf Λ 197), (1, .int z), (2, .int p), (3, rf Λ 204)]) hC dL_acts_6 (by decide) rfl ?_
  refine v_aload_n hC dL_acts_8 1 rfl ?_
  refine v_iconst (v := 0) hC dL_acts_9 (by decide) ?_
  refine v_callVr (v := .int (cntC X m t 0 0)) (C2 := CC Λ X Y) (As := [.int 0]) (rest := []) hC 1 197 (c_X4_count Λ X Y (v := 0) hm0 hm hp0 ht4 hl0 (Nat.zero_le _)) (nR_of (by decide)) (cc_197 Λ X Y) rfl gL_acts_X4_count rfl rfl rfl hd_X4_count ⟨by decide, by decide⟩ rfl rfl (Nat.le_of_ble_eq_true rfl) dL_acts_10 ?_
  refine v_topi (y := nI m) (ct_0 X m t 0) ?_
  refine v_istore (lv' := [(5, .int (nI m)), (4, .int (nI t)), (0, rf Λ 197), (1, .int z), (2, .int p), (3, rf Λ 204)]) hC dL_acts_13 (by decide) rfl ?_
  refine v_iload_n hC dL_acts_15 3 rfl ?_
  refine v_iload hC dL_acts_16 0 rfl ?_
  refine v_callSr (v := .int (nI (upN z m))) (C2 := CC Λ X Y) (As := [.int z, .int (nI m)]) (rest := []) hC 2 (c_L_up Λ X Y (x := z) (n := m) (by omega) (by omega)) gL_acts_L_up rfl rfl rfl hd_L_up ⟨by decide, by decide⟩ rfl rfl (Nat.le_of_ble_eq_true rfl) dL_acts_18 ?_
  refine v_istore (lv' := [(6, .int (nI (upN z m))), (5, .int (nI m)), (4, .int (nI t)), (0, rf Λ 197), (1, .int z), (2, .int p), (3, rf Λ 204)]) hC dL_acts_21 (by decide) rfl ?_
  refine v_aload_n hC dL_acts_23 3 rfl ?_
  refine v_callSr (v := .long (markX X m t 0)) (C2 := CC Λ X Y) (As := [rf Λ 197]) (rest := []) hC 1 (c_L_mark Λ X Y hm0 hm hp0 ht4 hl0) gL_acts_L_mark rfl rfl rfl hd_L_mark ⟨by decide, by decide⟩ rfl rfl (Nat.le_of_ble_eq_true rfl) dL_acts_24 ?_
  refine v_lstore (lv' := [(7, .long (markX X m t 0)), (6, .int (nI (upN z m))), (5, .int (nI m)), (4, .int (nI t)), (0, rf Λ 197), (1, .int z), (2, .int p), (3, rf Λ 204)]) hC dL_acts_27 (by decide) rfl ?_
  refine v_aload_n hC dL_acts_29 7 rfl ?_
  refine v_iload hC dL_acts_30 1 rfl ?_
  refine v_iald hC 204 (nR_of (by decide)) (cc_204 Λ X Y) (upN z m) rfl (by omega) (by decide) dL_acts_32 ?_
  refine v_istore (lv' := [(9, .int (Y (upN z m))), (7, .long (markX X m t 0)), (6, .int (nI (upN z m))), (5, .int (nI m)), (4, .int (nI t)), (0, rf Λ 197), (1, .int z), (2, .int p), (3, rf Λ 204)]) hC dL_acts_33 (by decide) rfl ?_
  refine v_aload_n hC dL_acts_35 5 rfl ?_
  refine v_iload hC dL_acts_36 2 rfl ?_
  refine v_callVr (v := .int tl) (C2 := CC Λ (xFi X 36 f6) Y) (As := [.int (nI (upN z m))]) (rest := []) hC 1 197 (con_E (c_X4_tollToDock Λ X Y (s := nI (upN z m)) hm0 hm) ht) (nR_of (by decide)) (cc_197 Λ X Y) rfl gL_acts_X4_tollToDock rfl rfl rfl hd_X4_tollToDock ⟨by decide, by decide⟩ rfl rfl (Nat.le_of_ble_eq_true rfl) dL_acts_38 ?_
  refine v_istore (lv' := [(10, .int tl), (9, .int (Y (upN z m))), (7, .long (markX X m t 0)), (6, .int (nI (upN z m))), (5, .int (nI m)), (4, .int (nI t)), (0, rf Λ 197), (1, .int z), (2, .int p), (3, rf Λ 204)]) hC dL_acts_41 (by decide) rfl ?_
  refine v_aload_n hC dL_acts_43 6 rfl ?_
  refine v_iload hC dL_acts_44 3 rfl ?_
  refine v_iconst (v := 0) hC dL_acts_46 (by decide) ?_
  refine v_callVr (v := .int (setC (xFi X 36 f6) m (nI (upN z m)) 0)) (C2 := CC Λ (xFi X 36 f6) Y) (As := [.int (nI (upN z m)), .int 0]) (rest := []) hC 2 197 (c_X4_set Λ (xFi X 36 f6) Y (s := nI (upN z m)) (v := 0) hm0 hm) (nR_of (by decide)) (cc_197 Λ (xFi X 36 f6) Y) rfl gL_acts_X4_set rfl rfl rfl hd_X4_set ⟨by decide, by decide⟩ rfl rfl (Nat.le_of_ble_eq_true rfl) dL_acts_47 ?_
  refine v_topi (y := sz (X.1 (upN z m))) (by rw [set_T hs hm, e36 _ hs]; exact se_0 _) ?_
  refine v_istore (lv' := [(11, .int (sz (X.1 (upN z m)))), (10, .int tl), (9, .int (Y (upN z m))), (7, .long (markX X m t 0)), (6, .int (nI (upN z m))), (5, .int (nI m)), (4, .int (nI t)), (0, rf Λ 197), (1, .int z), (2, .int p), (3, rf Λ 204)]) hC dL_acts_50 (by decide) rfl ?_
  refine v_iload_n hC dL_acts_52 8 rfl ?_
  refine v_iconst (v := 3) hC dL_acts_53 (by decide) ?_
  refine v_ishr (x := z) (y := 3) hC dL_acts_54 ?_
  refine v_bipush (v := 11) hC dL_acts_55 (by decide) ?_
  refine v_topi (y := nI 11) rfl ?_
  refine v_callSr (v := .int (nI (upN (z >>> (3 &&& 31)) 11))) (C2 := CC Λ (xFi X 36 f6) Y) (As := [.int (z >>> (3 &&& 31)), .int (nI 11)]) (rest := []) hC 2 (c_L_up Λ (xFi X 36 f6) Y (x := z >>> (3 &&& 31)) (n := 11) (by decide) (by decide)) gL_acts_L_up rfl rfl rfl hd_L_up ⟨by decide, by decide⟩ rfl rfl (Nat.le_of_ble_eq_true rfl) dL_acts_57 ?_
  refine v_istore (lv' := [(12, .int (nI (upN (z >>> (3 &&& 31)) 11))), (11, .int (sz (X.1 (upN z m)))), (10, .int tl), (9, .int (Y (upN z m))), (7, .long (markX X m t 0)), (6, .int (nI (upN z m))), (5, .int (nI m)), (4, .int (nI t)), (0, rf Λ 197), (1, .int z), (2, .int p), (3, rf Λ 204)]) hC dL_acts_60 (by decide) rfl ?_
  refine v_aload_n hC dL_acts_62 8 rfl ?_
  refine v_iload_n hC dL_acts_63 9 rfl ?_
  refine v_iload_n hC dL_acts_64 10 rfl ?_
  refine v_aload_n hC dL_acts_65 11 rfl ?_
  refine v_callSr (v := .int d) (C2 := CC Λ X2 g2) (As := [rf Λ 197, .int z, .int p, rf Λ 204]) (rest := []) hC 4 hc gL_acts_L_act rfl rfl rfl hd_L_act ⟨by decide, by decide⟩ rfl rfl (Nat.le_of_ble_eq_true rfl) dL_acts_66 ?_
  refine v_istore (lv' := [(13, .int d), (12, .int (nI (upN (z >>> (3 &&& 31)) 11))), (11, .int (sz (X.1 (upN z m)))), (10, .int tl), (9, .int (Y (upN z m))), (7, .long (markX X m t 0)), (6, .int (nI (upN z m))), (5, .int (nI m)), (4, .int (nI t)), (0, rf Λ 197), (1, .int z), (2, .int p), (3, rf Λ 204)]) hC dL_acts_69 (by decide) rfl ?_
  refine v_iload hC dL_acts_71 0 rfl ?_
  refine v_if_ge (tgt := 103) hC dL_acts_73 (by decide) (fun _ => ?_) (fun zz => absurd (Int32.not_lt.mp hd) zz)
  refine v_aload_n hC dL_acts_103 9 rfl ?_
  refine v_iload hC dL_acts_104 6 rfl ?_
  refine v_iconst (v := 0) hC dL_acts_106 (by decide) ?_
  refine v_callVr (v := .int (setC X2 m' (nI (upN z m)) 0)) (C2 := CC Λ X2 g2) (As := [.int (nI (upN z m)), .int 0]) (rest := []) hC 2 197 (c_X4_set Λ X2 g2 (s := nI (upN z m)) (v := 0) jm0 jm) (nR_of (by decide)) (cc_197 Λ X2 g2) rfl gL_acts_X4_set rfl rfl rfl hd_X4_set ⟨by decide, by decide⟩ rfl rfl (Nat.le_of_ble_eq_true rfl) dL_acts_107 ?_
  refine v_topi (y := sz (X2.1 (upN z m))) (by rw [set_T (show (upN z m) < m' by omega) jm]; exact se_0 _) ?_
  refine v_istore (lv' := [(14, .int (sz (X2.1 (upN z m)))), (13, .int d), (12, .int (nI (upN (z >>> (3 &&& 31)) 11))), (11, .int (sz (X.1 (upN z m)))), (10, .int tl), (9, .int (Y (upN z m))), (7, .long (markX X m t 0)), (6, .int (nI (upN z m))), (5, .int (nI m)), (4, .int (nI t)), (0, rf Λ 197), (1, .int z), (2, .int p), (3, rf Λ 204)]) hC dL_acts_110 (by decide) rfl ?_
  have J262 : V Λ κ (CC Λ X2 g2) 262 [(14, .int (sz (X2.1 (upN z m)))), (13, .int d), (12, .int (nI (upN (z >>> (3 &&& 31)) 11))), (11, .int (sz (X.1 (upN z m)))), (10, .int tl), (9, .int (Y (upN z m))), (7, .long (markX X m t 0)), (6, .int (nI (upN z m))), (5, .int (nI m)), (4, .int (nI t)), (0, rf Λ 197), (1, .int z), (2, .int p), (3, rf Λ 204)] [] := by
    refine v_iconst (v := 1) hC dL_acts_262 (by decide) ?_
    refine v_goto (tgt := 267) hC dL_acts_263 (by decide) ?_
    refine v_istore (lv' := [(15, .int 1), (14, .int (sz (X2.1 (upN z m)))), (13, .int d), (12, .int (nI (upN (z >>> (3 &&& 31)) 11))), (11, .int (sz (X.1 (upN z m)))), (10, .int tl), (9, .int (Y (upN z m))), (7, .long (markX X m t 0)), (6, .int (nI (upN z m))), (5, .int (nI m)), (4, .int (nI t)), (0, rf Λ 197), (1, .int z), (2, .int p), (3, rf Λ 204)]) hC dL_acts_267 (by decide) rfl ?_
    refine v_iload hC dL_acts_269 0 rfl ?_
    refine v_if_eq (tgt := 283) hC dL_acts_271 (by decide) (fun zz => absurd zz (show ¬ (1 : Int32) = 0 by decide)) (fun _ => ?_)
    refine v_iload_n hC dL_acts_274 12 rfl ?_
    refine v_bipush (v := 20) hC dL_acts_275 (by decide) ?_
    refine v_ishr (x := z) (y := 20) hC dL_acts_277 ?_
    refine v_iconst (v := 3) hC dL_acts_278 (by decide) ?_
    refine v_iand (x := z >>> (20 &&& 31)) (y := 3) hC dL_acts_279 ?_
    refine v_if_le (tgt := 286) hC dL_acts_280 (by decide) (fun _ => ?_) (fun zz => absurd hz zz)
    refine v_aload_n hC dL_acts_286 14 rfl ?_
    refine v_iload hC dL_acts_287 8 rfl ?_
    refine v_iload hC dL_acts_289 6 rfl ?_
    refine v_iast hC 204 (nR_of (by decide)) (cc_204 Λ X2 g2) (upN z m) rfl (by omega) (by decide) dL_acts_291 ?_
    refine v_mem (C' := CC Λ X2 (upd g2 (upN z m) (Y (upN z m)))) (cs_y Λ _ _ _) ?_
    have J307 : V Λ κ (CC Λ X2 (upd g2 (upN z m) (Y (upN z m)))) 307 [(9, .int (Y (upN z m))), (7, .long (markX X m t 0)), (6, .int (nI (upN z m))), (5, .int (nI m)), (4, .int (nI t)), (0, rf Λ 197), (1, .int z), (2, .int p), (3, rf Λ 204)] [.int (nI ix), rf Λ 204] := by
      refine v_iconst (v := 0) hC dL_acts_307 (by decide) ?_
      refine v_iast hC 204 (nR_of (by decide)) (cc_204 Λ X2 (upd g2 (upN z m) (Y (upN z m)))) ix rfl (by omega) (by decide) dL_acts_308 ?_
      refine v_mem (C' := CC Λ X2 (upd (upd g2 (upN z m) (Y (upN z m))) ix 0)) (cs_y Λ _ _ _) ?_
      refine v_aload_n hC dL_acts_309 5 rfl ?_
      refine v_callVr (v := .int (nI (phZ t - 1))) (C2 := CC Λ (popX X2 (phZ t) m) (upd (upd g2 (upN z m) (Y (upN z m))) ix 0)) (As := []) (rest := []) hC 0 197 (con_E (c_X4_undo Λ X2 (upd (upd g2 (upN z m) (Y (upN z m))) ix 0) jp0 jt4 jq hb.1 hm) (und_T (by omega))) (nR_of (by decide)) (cc_197 Λ X2 (upd (upd g2 (upN z m) (Y (upN z m))) ix 0)) rfl gL_acts_X4_undo rfl rfl rfl hd_X4_undo ⟨by decide, by decide⟩ rfl rfl (Nat.le_of_ble_eq_true rfl) dL_acts_310 ?_
      refine v_iload hC dL_acts_313 4 rfl ?_
      refine v_iconst (v := 4) hC dL_acts_315 (by decide) ?_
      refine v_icmp_ge (tgt := 324) hC dL_acts_316 (by decide) (fun c316 => ?_) (fun c316 => ?_)
      · have g316 : t = 4 := by have := (nI_leI (a := 4) (by decide) (by omega)).mp c316; omega
        refine v_iconst (v := 3) hC dL_acts_324 (by decide) ?_
        refine v_icmp_ne (tgt := 342) hC dL_acts_325 (by decide) (fun zz => absurd (show nI (phZ t - 1) = 3 by rw [g316]; rfl) zz) (fun _ => ?_)
        refine v_aload_n hC dL_acts_328 5 rfl ?_
        refine v_callSr (v := .long (markX (popX X2 (phZ t) m) m (phZ t - 1) 0)) (C2 := CC Λ (popX X2 (phZ t) m) (upd (upd g2 (upN z m) (Y (upN z m))) ix 0)) (As := [rf Λ 197]) (rest := []) hC 1 (c_L_mark Λ (popX X2 (phZ t) m) (upd (upd g2 (upN z m) (Y (upN z m))) ix 0) km0 km kp0 kt4 kl0) gL_acts_L_mark rfl rfl rfl hd_L_mark ⟨by decide, by decide⟩ rfl rfl (Nat.le_of_ble_eq_true rfl) dL_acts_329 ?_
        refine v_topl (y := markX X m t 0) (mark_vw hv2 hm) ?_
        refine v_lload hC dL_acts_332 1 rfl ?_
        refine v_lcmp hC dL_acts_334 ?_
        refine v_topi (y := 0) (lgc_self _) ?_
        refine v_if_ne (tgt := 342) hC dL_acts_335 (by decide) (fun zz => absurd rfl zz) (fun _ => ?_)
        refine v_iconst (v := 1) hC dL_acts_338 (by decide) ?_
        refine v_goto (tgt := 343) hC dL_acts_339 (by decide) ?_
        exact v_zret hC hR rfl rfl rfl dL_acts_343
      · have g316 : t < 4 := Nat.lt_of_not_le (fun y => c316 ((nI_leI (a := 4) (by decide) (by omega)).mpr y))
        refine v_iload hC dL_acts_319 4 rfl ?_
        refine v_goto (tgt := 325) hC dL_acts_321 (by decide) ?_
        refine v_icmp_ne (tgt := 342) hC dL_acts_325 (by decide) (fun zz => absurd (show nI (phZ t - 1) = nI t by unfold phZ; rw [if_pos g316]; rfl) zz) (fun _ => ?_)
        refine v_aload_n hC dL_acts_328 5 rfl ?_
        refine v_callSr (v := .long (markX (popX X2 (phZ t) m) m (phZ t - 1) 0)) (C2 := CC Λ (popX X2 (phZ t) m) (upd (upd g2 (upN z m) (Y (upN z m))) ix 0)) (As := [rf Λ 197]) (rest := []) hC 1 (c_L_mark Λ (popX X2 (phZ t) m) (upd (upd g2 (upN z m) (Y (upN z m))) ix 0) km0 km kp0 kt4 kl0) gL_acts_L_mark rfl rfl rfl hd_L_mark ⟨by decide, by decide⟩ rfl rfl (Nat.le_of_ble_eq_true rfl) dL_acts_329 ?_
        refine v_topl (y := markX X m t 0) (mark_vw hv2 hm) ?_
        refine v_lload hC dL_acts_332 1 rfl ?_
        refine v_lcmp hC dL_acts_334 ?_
        refine v_topi (y := 0) (lgc_self _) ?_
        refine v_if_ne (tgt := 342) hC dL_acts_335 (by decide) (fun zz => absurd rfl zz) (fun _ => ?_)
        refine v_iconst (v := 1) hC dL_acts_338 (by decide) ?_
        refine v_goto (tgt := 343) hC dL_acts_339 (by decide) ?_
        exact v_zret hC hR rfl rfl rfl dL_acts_343
    refine v_aload_n hC dL_acts_292 14 rfl ?_
    refine v_iload hC dL_acts_293 9 rfl ?_
    refine v_bipush (v := 6) hC dL_acts_295 (by decide) ?_
    refine v_icmp_ge (tgt := 305) hC dL_acts_297 (by decide) (fun c297 => ?_) (fun c297 => ?_)
    · have g297 : ¬ m < 6 := fun y => by have := (nI_leI (a := 6) (by decide) (by omega)).mp c297; omega
      refine v_bipush (v := 7) hC dL_acts_305 (by decide) ?_
      refine v_topi (y := nI ix) (by rw [hix, if_neg g297]; rfl) ?_
      refine v_sub (lv' := [(9, .int (Y (upN z m))), (7, .long (markX X m t 0)), (6, .int (nI (upN z m))), (5, .int (nI m)), (4, .int (nI t)), (0, rf Λ 197), (1, .int z), (2, .int p), (3, rf Λ 204)]) [6, 7, 8, 9, 10, 11, 12, 13, 14] rfl ?_
      exact J307
    · have g297 : m < 6 := Nat.lt_of_not_le (fun y => c297 ((nI_leI (a := 6) (by decide) (by omega)).mpr y))
      refine v_iload hC dL_acts_300 9 rfl ?_
      refine v_topi (y := nI ix) (by rw [hix, if_pos g297]) ?_
      refine v_goto (tgt := 307) hC dL_acts_302 (by decide) ?_
      refine v_sub (lv' := [(9, .int (Y (upN z m))), (7, .long (markX X m t 0)), (6, .int (nI (upN z m))), (5, .int (nI m)), (4, .int (nI t)), (0, rf Λ 197), (1, .int z), (2, .int p), (3, rf Λ 204)]) [6, 7, 8, 9, 10, 11, 12, 13, 14] rfl ?_
      exact J307
  have J241 : V Λ κ (CC Λ X2 g2) 241 [(14, .int (sz (X2.1 (upN z m)))), (13, .int d), (12, .int (nI (upN (z >>> (3 &&& 31)) 11))), (11, .int (sz (X.1 (upN z m)))), (10, .int tl), (9, .int (Y (upN z m))), (7, .long (markX X m t 0)), (6, .int (nI (upN z m))), (5, .int (nI m)), (4, .int (nI t)), (0, rf Λ 197), (1, .int z), (2, .int p), (3, rf Λ 204)] [] := by
    refine v_iload hC dL_acts_241 2 rfl ?_
    refine v_bipush (v := 6) hC dL_acts_243 (by decide) ?_
    refine v_icmp_lt (tgt := 262) hC dL_acts_245 (by decide) (fun c245 => ?_) (fun c245 => ?_)
    · exact J262
    · have g245 : 6 ≤ upN (z >>> (3 &&& 31)) 11 := Nat.le_of_not_lt (fun y => c245 ((nI_ltI (b := 6) (by omega) (by decide)).mpr y))
      refine v_iload hC dL_acts_248 2 rfl ?_
      refine v_bipush (v := 8) hC dL_acts_250 (by decide) ?_
      refine v_icmp_eq (tgt := 262) hC dL_acts_252 (by decide) (fun c252 => ?_) (fun c252 => ?_)
      · exact J262
      · have g252 : upN (z >>> (3 &&& 31)) 11 ≠ 8 := fun y => c252 (by rw [y]; rfl)
        refine v_iload hC dL_acts_255 0 rfl ?_
        refine v_iload hC dL_acts_257 3 rfl ?_
        refine v_icmp_ne (tgt := 266) hC dL_acts_259 (by decide) (fun zz => absurd (kr.2.2.2.2.2.2 g245 g252) zz) (fun _ => ?_)
        exact J262
  have J227 : V Λ κ (CC Λ X2 g2) 227 [(14, .int (sz (X2.1 (upN z m)))), (13, .int d), (12, .int (nI (upN (z >>> (3 &&& 31)) 11))), (11, .int (sz (X.1 (upN z m)))), (10, .int tl), (9, .int (Y (upN z m))), (7, .long (markX X m t 0)), (6, .int (nI (upN z m))), (5, .int (nI m)), (4, .int (nI t)), (0, rf Λ 197), (1, .int z), (2, .int p), (3, rf Λ 204)] [] := by
    refine v_iload hC dL_acts_227 2 rfl ?_
    refine v_bipush (v := 8) hC dL_acts_229 (by decide) ?_
    refine v_icmp_ne (tgt := 241) hC dL_acts_231 (by decide) (fun c231 => ?_) (fun c231 => ?_)
    · exact J241
    · have g231 : upN (z >>> (3 &&& 31)) 11 = 8 := (nI_eq (a := upN (z >>> (3 &&& 31)) 11) (b := 8) (by omega) (by decide)).mp c231
      refine v_iload hC dL_acts_234 0 rfl ?_
      refine v_iload hC dL_acts_236 1 rfl ?_
      refine v_icmp_ne (tgt := 266) hC dL_acts_238 (by decide) (fun zz => absurd (kr.2.2.2.2.2.1 g231) zz) (fun _ => ?_)
      exact J241
  have J203 : V Λ κ (CC Λ X2 g2) 203 [(14, .int (sz (X2.1 (upN z m)))), (13, .int d), (12, .int (nI (upN (z >>> (3 &&& 31)) 11))), (11, .int (sz (X.1 (upN z m)))), (10, .int tl), (9, .int (Y (upN z m))), (7, .long (markX X m t 0)), (6, .int (nI (upN z m))), (5, .int (nI m)), (4, .int (nI t)), (0, rf Λ 197), (1, .int z), (2, .int p), (3, rf Λ 204)] [] := by
    refine v_iload hC dL_acts_203 2 rfl ?_
    refine v_bipush (v := 7) hC dL_acts_205 (by decide) ?_
    refine v_icmp_ne (tgt := 227) hC dL_acts_207 (by decide) (fun c207 => ?_) (fun c207 => ?_)
    · exact J227
    · have g207 : upN (z >>> (3 &&& 31)) 11 = 7 := (nI_eq (a := upN (z >>> (3 &&& 31)) 11) (b := 7) (by omega) (by decide)).mp c207
      refine v_iload hC dL_acts_210 1 rfl ?_
      refine v_iload hC dL_acts_212 4 rfl ?_
      refine v_icmp_ne (tgt := 266) hC dL_acts_214 (by decide) (fun zz => absurd ((kr.2.2.2.2.1 g207).1.trans htl.symm) zz) (fun _ => ?_)
      refine v_aload_n hC dL_acts_217 10 rfl ?_
      refine v_iload hC dL_acts_218 7 rfl ?_
      refine v_iconst (v := 4) hC dL_acts_220 (by decide) ?_
      refine v_callVr (v := .int (setC X2 m' (nI (upN z m)) 4)) (C2 := CC Λ X2 g2) (As := [.int (nI (upN z m)), .int 4]) (rest := []) hC 2 197 (c_X4_set Λ X2 g2 (s := nI (upN z m)) (v := 4) jm0 jm) (nR_of (by decide)) (cc_197 Λ X2 g2) rfl gL_acts_X4_set rfl rfl rfl hd_X4_set ⟨by decide, by decide⟩ rfl rfl (Nat.le_of_ble_eq_true rfl) dL_acts_221 ?_
      refine v_topi (y := 0) (by rw [set_T (show (upN z m) < m' by omega) jm, se_4, (kr.2.2.2.2.1 g207).2]; rfl) ?_
      refine v_if_ne (tgt := 266) hC dL_acts_224 (by decide) (fun zz => absurd rfl zz) (fun _ => ?_)
      exact J227
  have J187 : V Λ κ (CC Λ X2 g2) 187 [(14, .int (sz (X2.1 (upN z m)))), (13, .int d), (12, .int (nI (upN (z >>> (3 &&& 31)) 11))), (11, .int (sz (X.1 (upN z m)))), (10, .int tl), (9, .int (Y (upN z m))), (7, .long (markX X m t 0)), (6, .int (nI (upN z m))), (5, .int (nI m)), (4, .int (nI t)), (0, rf Λ 197), (1, .int z), (2, .int p), (3, rf Λ 204)] [] := by
    refine v_iload hC dL_acts_187 2 rfl ?_
    refine v_iconst (v := 5) hC dL_acts_189 (by decide) ?_
    refine v_icmp_ne (tgt := 203) hC dL_acts_190 (by decide) (fun c190 => ?_) (fun c190 => ?_)
    · exact J203
    · have g190 : upN (z >>> (3 &&& 31)) 11 = 5 := (nI_eq (a := upN (z >>> (3 &&& 31)) 11) (b := 5) (by omega) (by decide)).mp c190
      refine v_iload hC dL_acts_193 0 rfl ?_
      refine v_iload hC dL_acts_195 3 rfl ?_
      refine v_iload hC dL_acts_197 1 rfl ?_
      refine v_isub (x := sz (X.1 (upN z m))) (y := d) hC dL_acts_199 ?_
      refine v_icmp_ne (tgt := 266) hC dL_acts_200 (by decide) (fun zz => absurd (kr.2.2.2.1 g190) zz) (fun _ => ?_)
      exact J203
  have J165 : V Λ κ (CC Λ X2 g2) 165 [(14, .int (sz (X2.1 (upN z m)))), (13, .int d), (12, .int (nI (upN (z >>> (3 &&& 31)) 11))), (11, .int (sz (X.1 (upN z m)))), (10, .int tl), (9, .int (Y (upN z m))), (7, .long (markX X m t 0)), (6, .int (nI (upN z m))), (5, .int (nI m)), (4, .int (nI t)), (0, rf Λ 197), (1, .int z), (2, .int p), (3, rf Λ 204)] [] := by
    refine v_iload hC dL_acts_165 2 rfl ?_
    refine v_iconst (v := 3) hC dL_acts_167 (by decide) ?_
    refine v_icmp_eq (tgt := 177) hC dL_acts_168 (by decide) (fun c168 => ?_) (fun c168 => ?_)
    · have g168 : upN (z >>> (3 &&& 31)) 11 = 3 := (nI_eq (a := upN (z >>> (3 &&& 31)) 11) (b := 3) (by omega) (by decide)).mp c168
      have g34 : upN (z >>> (3 &&& 31)) 11 = 3 ∨ upN (z >>> (3 &&& 31)) 11 = 4 := Or.inl g168
      refine v_iload hC dL_acts_177 0 rfl ?_
      refine v_iload hC dL_acts_179 3 rfl ?_
      refine v_iload hC dL_acts_181 1 rfl ?_
      refine v_iadd (x := sz (X.1 (upN z m))) (y := d) hC dL_acts_183 ?_
      refine v_icmp_ne (tgt := 266) hC dL_acts_184 (by decide) (fun zz => absurd (kr.2.2.1 g34) zz) (fun _ => ?_)
      exact J187
    · refine v_iload hC dL_acts_171 2 rfl ?_
      refine v_iconst (v := 4) hC dL_acts_173 (by decide) ?_
      refine v_icmp_ne (tgt := 187) hC dL_acts_174 (by decide) (fun c174 => ?_) (fun c174 => ?_)
      · exact J187
      · have g174 : upN (z >>> (3 &&& 31)) 11 = 4 := (nI_eq (a := upN (z >>> (3 &&& 31)) 11) (b := 4) (by omega) (by decide)).mp c174
        have g34 : upN (z >>> (3 &&& 31)) 11 = 3 ∨ upN (z >>> (3 &&& 31)) 11 = 4 := Or.inr g174
        refine v_iload hC dL_acts_177 0 rfl ?_
        refine v_iload hC dL_acts_179 3 rfl ?_
        refine v_iload hC dL_acts_181 1 rfl ?_
        refine v_iadd (x := sz (X.1 (upN z m))) (y := d) hC dL_acts_183 ?_
        refine v_icmp_ne (tgt := 266) hC dL_acts_184 (by decide) (fun zz => absurd (kr.2.2.1 g34) zz) (fun _ => ?_)
        exact J187
  have J150 : V Λ κ (CC Λ X2 g2) 150 [(14, .int (sz (X2.1 (upN z m)))), (13, .int d), (12, .int (nI (upN (z >>> (3 &&& 31)) 11))), (11, .int (sz (X.1 (upN z m)))), (10, .int tl), (9, .int (Y (upN z m))), (7, .long (markX X m t 0)), (6, .int (nI (upN z m))), (5, .int (nI m)), (4, .int (nI t)), (0, rf Λ 197), (1, .int z), (2, .int p), (3, rf Λ 204)] [] := by
    refine v_iload hC dL_acts_150 2 rfl ?_
    refine v_iconst (v := 2) hC dL_acts_152 (by decide) ?_
    refine v_icmp_ne (tgt := 165) hC dL_acts_153 (by decide) (fun c153 => ?_) (fun c153 => ?_)
    · exact J165
    · have g153 : upN (z >>> (3 &&& 31)) 11 = 2 := (nI_eq (a := upN (z >>> (3 &&& 31)) 11) (b := 2) (by omega) (by decide)).mp c153
      refine v_iload hC dL_acts_156 0 rfl ?_
      refine v_iload hC dL_acts_158 3 rfl ?_
      refine v_iconst (v := 1) hC dL_acts_160 (by decide) ?_
      refine v_isub (x := sz (X.1 (upN z m))) (y := 1) hC dL_acts_161 ?_
      refine v_icmp_ne (tgt := 266) hC dL_acts_162 (by decide) (fun zz => absurd (kr.2.1 g153) zz) (fun _ => ?_)
      exact J165
  have J135 : V Λ κ (CC Λ X2 g2) 135 [(14, .int (sz (X2.1 (upN z m)))), (13, .int d), (12, .int (nI (upN (z >>> (3 &&& 31)) 11))), (11, .int (sz (X.1 (upN z m)))), (10, .int tl), (9, .int (Y (upN z m))), (7, .long (markX X m t 0)), (6, .int (nI (upN z m))), (5, .int (nI m)), (4, .int (nI t)), (0, rf Λ 197), (1, .int z), (2, .int p), (3, rf Λ 204)] [] := by
    refine v_iload hC dL_acts_135 2 rfl ?_
    refine v_iconst (v := 1) hC dL_acts_137 (by decide) ?_
    refine v_icmp_gt (tgt := 150) hC dL_acts_138 (by decide) (fun c138 => ?_) (fun c138 => ?_)
    · exact J150
    · have g138 : upN (z >>> (3 &&& 31)) 11 ≤ 1 := Nat.le_of_not_lt (fun y => c138 ((nI_ltI (a := 1) (by decide) (by omega)).mpr y))
      refine v_iload hC dL_acts_141 0 rfl ?_
      refine v_iload hC dL_acts_143 3 rfl ?_
      refine v_iconst (v := 1) hC dL_acts_145 (by decide) ?_
      refine v_iadd (x := sz (X.1 (upN z m))) (y := 1) hC dL_acts_146 ?_
      refine v_icmp_ne (tgt := 266) hC dL_acts_147 (by decide) (fun zz => absurd (kr.1 g138) zz) (fun _ => ?_)
      exact J150
  refine v_aload_n hC dL_acts_112 10 rfl ?_
  refine v_bipush (v := 9) hC dL_acts_113 (by decide) ?_
  refine v_callVr (v := .int (cntC X2 m' (phZ t) 0 9)) (C2 := CC Λ X2 g2) (As := [.int 9]) (rest := []) hC 1 197 (c_X4_count Λ X2 g2 (v := 9) jm0 jm jp0 jt4 jl0 (Nat.zero_le _)) (nR_of (by decide)) (cc_197 Λ X2 g2) rfl gL_acts_X4_count rfl rfl rfl hd_X4_count ⟨by decide, by decide⟩ rfl rfl (Nat.le_of_ble_eq_true rfl) dL_acts_115 ?_
  refine v_topi (y := nI (phZ t)) (ct_9 X2 m' (phZ t) 0) ?_
  refine v_iload hC dL_acts_118 9 rfl ?_
  refine v_iconst (v := 4) hC dL_acts_120 (by decide) ?_
  refine v_icmp_ge (tgt := 131) hC dL_acts_121 (by decide) (fun c121 => ?_) (fun c121 => ?_)
  · have g121 : t = 4 := by have := (nI_leI (a := 4) (by decide) (by omega)).mp c121; omega
    refine v_iconst (v := 4) hC dL_acts_131 (by decide) ?_
    refine v_icmp_ne (tgt := 266) hC dL_acts_132 (by decide) (fun zz => absurd (show nI (phZ t) = 4 by rw [g121]; rfl) zz) (fun _ => ?_)
    exact J135
  · have g121 : t < 4 := Nat.lt_of_not_le (fun y => c121 ((nI_leI (a := 4) (by decide) (by omega)).mpr y))
    refine v_iload hC dL_acts_124 9 rfl ?_
    refine v_iconst (v := 1) hC dL_acts_126 (by decide) ?_
    refine v_iadd (x := nI t) (y := 1) hC dL_acts_127 ?_
    refine v_topi (y := nI (t + 1)) (nI_add t 1) ?_
    refine v_goto (tgt := 132) hC dL_acts_128 (by decide) ?_
    refine v_icmp_ne (tgt := 266) hC dL_acts_132 (by decide) (fun zz => absurd (show nI (phZ t) = nI (t + 1) by unfold phZ; rw [if_pos g121]) zz) (fun _ => ?_)
    exact J135
set_option maxHeartbeats 400000 in
set_option maxRecDepth 100000 in
theorem c_L_acts (Λ : Lk) (X : XS) (Y : YS) {m t : Nat} {z p : Int32} (h : Inv X Y m t) (h1 : 0 < m) : ∃ (X' : XS) (g' : YS) (m' t' : Nat), Con Λ yL_acts wsL_acts { frames := 8, cells := 0, slots := 0, locals := 204 } [rf Λ 197, .int z, .int p, rf Λ 204] (CC Λ X Y) (some (.int 1)) (CC Λ X' g') ∧ Inv X' g' m' t' ∧ m ≤ m' := by
  have hm := h.1.2
  have hs := upN_lt z h1
  obtain ⟨f6, hf6⟩ : ∃ f6, f6 = (ehF 8 (faS (cpF (X.1 (upN z m)) (X.1 36)) false) 0 0).1 := ⟨_, rfl⟩
  have ht : tollX X m (nI (upN z m)) = ((ehF 8 (faS (X.1 (upN z m)) false) 0 0).2, (xFi X 36 f6)) := by rw [hf6]; exact toll_T hs hm
  have i1 := inv_try h f6
  have e36 : ∀ j, j < m → (xFi X 36 f6).1 j = X.1 j := fun j hj => xFi_ne X f6 (by omega)
  obtain ⟨d, X2, g2, hc, ok⟩ := c_L_act Λ (xFi X 36 f6) Y (z := z) (p := p) i1 h1
  rcases ok with ⟨hd, h2, hv⟩ | ⟨hd, m', hmm, h2, hb, hg, kr⟩
  · exact ⟨X2, g2, m, t, c_acts_f Λ X Y h h1 ht hc hd h2 hv, h2, Nat.le_refl _⟩
  · rw [e36 _ hs] at kr
    by_cases hz : z >>> (20 &&& 31) &&& 3 ≤ 0
    · obtain ⟨ix, hix⟩ : ∃ ix : Nat, ix = if m < 6 then m else 7 := ⟨_, rfl⟩
      have hix2 : m ≤ ix := by rw [hix]; split <;> omega
      have hG : ∀ s, s < m → Gd ((xFi X 36 f6).1 s) ∧ (upd (upd g2 (upN z m) (Y (upN z m))) ix 0) s = fp ((xFi X 36 f6).1 s) + fd ((xFi X 36 f6).1 s) := fun s hs2 => by
        refine ⟨(i1.2.1 s hs2).1, ?_⟩
        rw [pk_un (show s ≠ ix by omega), ← (i1.2.1 s hs2).2]
        by_cases e : s = (upN z m)
        · rw [e, pk_us]
        · rw [pk_un e]; exact hg s hs2 e
      exact ⟨_, _, m, phZ t - 1, c_acts_u Λ X Y h h1 ht hc hd hmm h2 kr rfl hz hb hix hG, (undo_ok (g2 := (upd (upd g2 (upN z m) (Y (upN z m))) ix 0)) h2 hb hm hG).1, Nat.le_refl _⟩
    · exact ⟨X2, g2, m', phZ t, c_acts_s Λ X Y h h1 ht hc hd hmm h2 kr rfl hz, h2, hmm⟩
