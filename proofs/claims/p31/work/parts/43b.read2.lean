theorem in_X4_readRanges_X4 : ∀ w ∈ wsX40, w ∈ wsX4_readRanges := by decide +kernel
theorem fl_X4_readRanges_29 : Cond.fieldLink RX4 29 "BoatSets" "text" "LBoatSets$RangeText;" ∈ wsX4_readRanges := by decide +kernel
theorem fl_X4_readRanges_36 : Cond.fieldLink RX4 36 "BoatSets" "trial" "LBoatSets$Fleet;" ∈ wsX4_readRanges := by decide +kernel
theorem fl_X4_readRanges_10 : Cond.fieldLink RX4 10 "BoatSets" "now" "LBoatSets$Harbour;" ∈ wsX4_readRanges := by decide +kernel
theorem in_X4_readRanges_X1 : ∀ w ∈ wsX10, w ∈ wsX4_readRanges := by decide +kernel
theorem fl_X4_readRanges_60 : Cond.fieldLink RX4 60 "BoatSets$Harbour" "fleets" "[LBoatSets$Fleet;" ∈ wsX4_readRanges := by decide +kernel
theorem in_X4_readRanges_X3 : ∀ w ∈ wsX30, w ∈ wsX4_readRanges := by decide +kernel
theorem fl_X4_readRanges_116 : Cond.fieldLink RX4 116 "BoatSets$RangeText" "ranges" "I" ∈ wsX4_readRanges := by decide +kernel
theorem fl_X4_readRanges_119 : Cond.fieldLink RX4 119 "BoatSets$RangeText" "firsts" "[I" ∈ wsX4_readRanges := by decide +kernel
theorem fl_X4_readRanges_122 : Cond.fieldLink RX4 122 "BoatSets$RangeText" "lasts" "[I" ∈ wsX4_readRanges := by decide +kernel
theorem hd_X4_readRanges : yX4_readRanges.cls = RX4 ∧ yX4_readRanges.cls ≠ "java/lang/invoke/MethodHandle" ∧ yX4_readRanges.cls ≠ "java/lang/invoke/VarHandle" ∧ (parseMethodDescriptor yX4_readRanges.desc).map (fun d => d.parameters.length) = some 1 := by decide +kernel
set_option maxHeartbeats 400000 in
set_option maxRecDepth 100000 in
theorem c_X4_readRanges (Λ : Lk) (X : XS) (Y : YS) {s : Int32} {L : Nat} {t : Nat} {m : Nat} (hm0 : xh X 0 = nI m) (hm : m ≤ 6) (hp0 : xz X = nI t) (ht4 : t ≤ 4) (hq : ∀ j, xq X j < 4) (hl0 : xl X = nI L) (hl60 : L ≤ 60) : Con Λ yX4_readRanges wsX4_readRanges { frames := 5, cells := 0, slots := 0, locals := 126 } [rf Λ 197, .int s] (CC Λ X Y) (some (.int ((rrX X t m L s).1))) (CC Λ ((rrX X t m L s).2) Y) := by
  refine con_start (cc := cX4_readRanges) (maxL := 6) (ret := (some .int)) (by decide) rfl (Nat.le_of_ble_eq_true rfl) ?_
  intro κ hC hR
  have hC : Ok Λ { frames := 5, cells := 0, slots := 0, locals := 126 } cX4_readRanges wsX4_readRanges RX4 6 κ := hC
  refine v_args (lv' := [(0, rf Λ 197), (1, .int s)]) rfl ?_
  refine v_aload_n hC dX4_readRanges_0 0 rfl ?_
  refine v_iload_n hC dX4_readRanges_1 1 rfl ?_
  refine v_callVr (v := .int (bI (isC m s))) (C2 := CC Λ X Y) (As := [.int s]) (rest := []) hC 1 197 (c_X4_isSet Λ X Y (s := s) hm0 hm) (nR_of (by decide)) (cc_197 Λ X Y) rfl gX4_readRanges_X4_isSet rfl rfl rfl hd_X4_isSet ⟨by decide, by decide⟩ rfl rfl (Nat.le_of_ble_eq_true rfl) dX4_readRanges_2 ?_
  refine v_bne (b := isC m s) (tgt := 10) hC dX4_readRanges_5 (by decide) (fun c5 => ?_) (fun c5 => ?_)
  · skip
    obtain ⟨k, hk, rfl⟩ := isC_of hm c5
    have hik : ix (nI k) = k := ix_nI (by omega)
    refine v_aload_n hC dX4_readRanges_10 0 rfl ?_
    refine v_get (T := TX4) (N := 6) (v := rf Λ 200) hC 197 (nR_of (by decide)) (cc_197 Λ X Y) in_X4_readRanges_X4 rfl 3 (by decide) fl_X4_readRanges_29 rfl dX4_readRanges_11 ?_
    refine v_callVr (v := .int ((rdX X L).1)) (C2 := CC Λ ((rdX X L).2) Y) (As := []) (rest := []) hC 0 200 (c_X3_read Λ X Y hl0 (by omega)) (nR_of (by decide)) (cc_200 Λ X Y) rfl gX4_readRanges_X3_read rfl rfl rfl hd_X3_read ⟨by decide, by decide⟩ rfl rfl (Nat.le_of_ble_eq_true rfl) dX4_readRanges_14 ?_
    refine v_istore_n (lv' := [(2, .int ((rdX X L).1)), (0, rf Λ 197), (1, .int (nI k))]) hC dX4_readRanges_17 (by decide) rfl ?_
    refine v_iload_n hC dX4_readRanges_18 0 rfl ?_
    refine v_iconst (v := (-1)) hC dX4_readRanges_19 (by decide) ?_
    refine v_icmp_eq (x := (rdX X L).1) (y := (-1)) (tgt := 28) hC dX4_readRanges_20 (by decide) (fun c20 => ?_) (fun c20 => ?_)
    · skip
      obtain ⟨b, e, r, hr30, eZ⟩ := rdX_ok X L
      refine v_mem (mem_X eZ) ?_
      have hir : ix (nI r) = r := ix_nI (by omega)
      refine v_aload_n hC dX4_readRanges_28 1 rfl ?_
      refine v_get (T := TX4) (N := 6) (v := rf Λ 200) hC 197 (nR_of (by decide)) (cc_197 Λ (xmS (xeS (xbS X b) e) (nI r)) Y) in_X4_readRanges_X4 rfl 3 (by decide) fl_X4_readRanges_29 rfl dX4_readRanges_29 ?_
      refine v_callVr (v := .int (bI (gvC (xb (xmS (xeS (xbS X b) e) (nI r))) (xe (xmS (xeS (xbS X b) e) (nI r))) r 0))) (C2 := CC Λ (xmS (xeS (xbS X b) e) (nI r)) Y) (As := []) (rest := []) hC 0 200 (c_X3_hasGoodValues Λ (xmS (xeS (xbS X b) e) (nI r)) Y (r := r) rfl hr30) (nR_of (by decide)) (cc_200 Λ (xmS (xeS (xbS X b) e) (nI r)) Y) rfl gX4_readRanges_X3_hasGoodValues rfl rfl rfl hd_X3_hasGoodValues ⟨by decide, by decide⟩ rfl rfl (Nat.le_of_ble_eq_true rfl) dX4_readRanges_32 ?_
      refine v_bne (b := gvC (xb (xmS (xeS (xbS X b) e) (nI r))) (xe (xmS (xeS (xbS X b) e) (nI r))) r 0) (tgt := 41) hC dX4_readRanges_35 (by decide) (fun c35 => ?_) (fun c35 => ?_)
      · skip
        refine v_aload_n hC dX4_readRanges_41 1 rfl ?_
        refine v_get (T := TX4) (N := 6) (v := rf Λ 180) hC 197 (nR_of (by decide)) (cc_197 Λ (xmS (xeS (xbS X b) e) (nI r)) Y) in_X4_readRanges_X4 rfl 4 (by decide) fl_X4_readRanges_36 rfl dX4_readRanges_42 ?_
        refine v_aload_n hC dX4_readRanges_45 1 rfl ?_
        refine v_get (T := TX4) (N := 6) (v := rf Λ 185) hC 197 (nR_of (by decide)) (cc_197 Λ (xmS (xeS (xbS X b) e) (nI r)) Y) in_X4_readRanges_X4 rfl 0 (by decide) fl_X4_readRanges_10 rfl dX4_readRanges_46 ?_
        refine v_get (T := TX1) (N := 2) (v := rf Λ (186 + 2 * 0)) hC 185 (rb_h (h := 0) (by decide)) (cc_h Λ (xmS (xeS (xbS X b) e) (nI r)) Y (h := 0) (by decide)) in_X4_readRanges_X1 rfl 0 (by decide) fl_X4_readRanges_60 rfl dX4_readRanges_49 ?_
        refine v_iload_n hC dX4_readRanges_52 2 rfl ?_
        refine v_aald (Cn := "BoatSets$Fleet") (n := 6) (r2 := 5 * k) hC (186 + 2 * 0) (rb_hr (h := 0) (by decide)) 3 rfl (cc_hr Λ (xmS (xeS (xbS X b) e) (nI r)) Y (h := 0) (by decide)) k rfl (by omega) (by decide) (by simp) dX4_readRanges_53 ?_
        refine v_callVv (C2 := CC Λ (xFi (xmS (xeS (xbS X b) e) (nI r)) 36 (cpF ((xmS (xeS (xbS X b) e) (nI r)).1 k) ((xmS (xeS (xbS X b) e) (nI r)).1 36))) Y) (As := [rf Λ (5 * k)]) (rest := []) hC 1 180 (c_X0_copyFrom Λ (xmS (xeS (xbS X b) e) (nI r)) Y (i := 36) (f := ((xmS (xeS (xbS X b) e) (nI r)).1 36)) (by decide) rfl (io := k) (fo := ((xmS (xeS (xbS X b) e) (nI r)).1 k)) (by omega) rfl (by omega)) (rb_f0 (i := 36) (by decide)) (cc_f0 Λ Y (i := 36) (by decide) rfl) rfl gX4_readRanges_X0_copyFrom rfl rfl rfl hd_X0_copyFrom ⟨by decide, by decide⟩ rfl rfl (Nat.le_of_ble_eq_true rfl) dX4_readRanges_54 ?_
        refine v_iconst (v := 0) hC dX4_readRanges_57 (by decide) ?_
        refine v_istore_n (lv' := [(3, .int 0), (2, .int ((rdX X L).1)), (0, rf Λ 197), (1, .int (nI k))]) hC dX4_readRanges_58 (by decide) rfl ?_
        refine v_iconst (v := 0) hC dX4_readRanges_59 (by decide) ?_
        refine v_istore (lv' := [(4, .int 0), (3, .int 0), (2, .int ((rdX X L).1)), (0, rf Λ 197), (1, .int (nI k))]) hC dX4_readRanges_60 (by decide) rfl ?_
        have L62 : ∀ (fu62 : Nat) (i : Nat) (mv : Int32) (g : FR) (x4 : Int32), i ≤ r → rlF (xb (xmS (xeS (xbS X b) e) (nI r))) (xe (xmS (xeS (xbS X b) e) (nI r))) (r - i) i mv g = rlZ (xmS (xeS (xbS X b) e) (nI r)) k r → x4 = nI i → r - i < fu62 → V Λ κ (CC Λ (xFi (xmS (xeS (xbS X b) e) (nI r)) 36 g) Y) 62 [(0, rf Λ 197), (1, .int (nI k)), (2, .int ((rdX X L).1)), (3, .int mv), (4, .int x4)] [] := by
          intro fu62
          induction fu62 with
          | zero => intro i mv g x4 hi hr e4 hfu62; exact absurd hfu62 (Nat.not_lt_zero _)
          | succ fu62 ih62 =>
            intro i mv g x4 hi hr e4 hfu62
            subst e4
            refine v_iload hC dX4_readRanges_62 4 rfl ?_
            refine v_aload_n hC dX4_readRanges_64 0 rfl ?_
            refine v_get (T := TX4) (N := 6) (v := rf Λ 200) hC 197 (nR_of (by decide)) (cc_197 Λ (xFi (xmS (xeS (xbS X b) e) (nI r)) 36 g) Y) in_X4_readRanges_X4 rfl 3 (by decide) fl_X4_readRanges_29 rfl dX4_readRanges_65 ?_
            refine v_get (T := TX3) (N := 5) (v := .int (nI r)) hC 200 (nR_of (by decide)) (cc_200 Λ (xFi (xmS (xeS (xbS X b) e) (nI r)) 36 g) Y) in_X4_readRanges_X3 rfl 4 (by decide) fl_X4_readRanges_116 rfl dX4_readRanges_68 ?_
            refine v_topi (y := nI r) rfl ?_
            refine v_nge (a := i) (b := r) (tgt := 123) hC dX4_readRanges_71 (by decide) rfl rfl (by omega) (by omega) (fun c71 => ?_) (fun c71 => ?_)
            · have c71' := Nat.not_lt.mpr c71
              refine v_aload_n hC dX4_readRanges_123 0 rfl ?_
              refine v_iload_n hC dX4_readRanges_124 1 rfl ?_
              refine v_iload_n hC dX4_readRanges_125 3 rfl ?_
              refine v_callVr (v := .int ((stX (xFi (xmS (xeS (xbS X b) e) (nI r)) 36 g) t m k mv).1)) (C2 := CC Λ ((stX (xFi (xmS (xeS (xbS X b) e) (nI r)) 36 g) t m k mv).2) Y) (As := [.int (nI k), .int mv]) (rest := []) hC 2 197 (c_X4_settleTrial Λ (xFi (xmS (xeS (xbS X b) e) (nI r)) 36 g) Y (k := k) (v := mv) (t := t) hm0 hm hp0 (by omega) hq (by omega)) (nR_of (by decide)) (cc_197 Λ (xFi (xmS (xeS (xbS X b) e) (nI r)) 36 g) Y) rfl gX4_readRanges_X4_settleTrial rfl rfl rfl hd_X4_settleTrial ⟨by decide, by decide⟩ rfl rfl (Nat.le_of_ble_eq_true rfl) dX4_readRanges_126 ?_
              have e : rrX X t m L (nI k) = ((stX (xFi (xmS (xeS (xbS X b) e) (nI r)) 36 g) t m k mv).1, (stX (xFi (xmS (xeS (xbS X b) e) (nI r)) 36 g) t m k mv).2) := by rw [rrX, if_neg (by rw [c5]; decide), if_neg (fun h => h c20), eZ, hik, show ix (xm (xmS (xeS (xbS X b) e) (nI r))) = r from hir, rrC, if_neg (by rw [c35]; decide), ← hr, show r - i = 0 by omega]; rfl
              exact v_iretX hC hR e dX4_readRanges_129
            · have c71' := Nat.not_le.mpr c71
              obtain ⟨g1, g2, g3⟩ := gv_at0 c35 c71
              obtain ⟨q, hq1, eq1⟩ := isN_of g1
              obtain ⟨q2, hq2, eq2⟩ := isN_of g2
              refine v_aload_n hC dX4_readRanges_74 0 rfl ?_
              refine v_get (T := TX4) (N := 6) (v := rf Λ 180) hC 197 (nR_of (by decide)) (cc_197 Λ (xFi (xmS (xeS (xbS X b) e) (nI r)) 36 g) Y) in_X4_readRanges_X4 rfl 4 (by decide) fl_X4_readRanges_36 rfl dX4_readRanges_75 ?_
              refine v_aload_n hC dX4_readRanges_78 0 rfl ?_
              refine v_get (T := TX4) (N := 6) (v := rf Λ 200) hC 197 (nR_of (by decide)) (cc_197 Λ (xFi (xmS (xeS (xbS X b) e) (nI r)) 36 g) Y) in_X4_readRanges_X4 rfl 3 (by decide) fl_X4_readRanges_29 rfl dX4_readRanges_79 ?_
              refine v_get (T := TX3) (N := 5) (v := rf Λ 202) hC 200 (nR_of (by decide)) (cc_200 Λ (xFi (xmS (xeS (xbS X b) e) (nI r)) 36 g) Y) in_X4_readRanges_X3 rfl 1 (by decide) fl_X4_readRanges_119 rfl dX4_readRanges_82 ?_
              refine v_iload hC dX4_readRanges_85 4 rfl ?_
              refine v_iald (n := 30) (f := (xb (xmS (xeS (xbS X b) e) (nI r)))) hC 202 (nR_of (by decide)) (cc_202 Λ (xFi (xmS (xeS (xbS X b) e) (nI r)) 36 g) Y) i rfl (by omega) (by decide) dX4_readRanges_87 ?_
              refine v_topi (y := nI q) eq1 ?_
              refine v_aload_n hC dX4_readRanges_88 0 rfl ?_
              refine v_get (T := TX4) (N := 6) (v := rf Λ 200) hC 197 (nR_of (by decide)) (cc_197 Λ (xFi (xmS (xeS (xbS X b) e) (nI r)) 36 g) Y) in_X4_readRanges_X4 rfl 3 (by decide) fl_X4_readRanges_29 rfl dX4_readRanges_89 ?_
              refine v_get (T := TX3) (N := 5) (v := rf Λ 203) hC 200 (nR_of (by decide)) (cc_200 Λ (xFi (xmS (xeS (xbS X b) e) (nI r)) 36 g) Y) in_X4_readRanges_X3 rfl 2 (by decide) fl_X4_readRanges_122 rfl dX4_readRanges_92 ?_
              refine v_iload hC dX4_readRanges_95 4 rfl ?_
              refine v_iald (n := 30) (f := (xe (xmS (xeS (xbS X b) e) (nI r)))) hC 203 (nR_of (by decide)) (cc_203 Λ (xFi (xmS (xeS (xbS X b) e) (nI r)) 36 g) Y) i rfl (by omega) (by decide) dX4_readRanges_97 ?_
              refine v_topi (y := nI q2) eq2 ?_
              refine v_iconst (v := 1) hC dX4_readRanges_98 (by decide) ?_
              refine v_callVr (v := .int ((mvF true (q2 + 1 - q) q 0 g).2)) (C2 := CC Λ (xFi (xFi (xmS (xeS (xbS X b) e) (nI r)) 36 g) 36 (mvF true (q2 + 1 - q) q 0 g).1) Y) (As := [.int (nI q), .int (nI q2), .int 1]) (rest := []) hC 3 180 (c_X0_move Λ (xFi (xmS (xeS (xbS X b) e) (nI r)) 36 g) Y (i := 36) (f := g) (by decide) (xFi_at (xmS (xeS (xbS X b) e) (nI r)) 36 g) (u := q) (v := q2) (cm := true) (by omega) (by omega)) (rb_f0 (i := 36) (by decide)) (cc_f0 Λ Y (i := 36) (by decide) (xFi_at (xmS (xeS (xbS X b) e) (nI r)) 36 g)) rfl gX4_readRanges_X0_move rfl rfl rfl hd_X0_move ⟨by decide, by decide⟩ rfl rfl (Nat.le_of_ble_eq_true rfl) dX4_readRanges_99 ?_
              refine v_mem (mem_X (xFi_2 (xmS (xeS (xbS X b) e) (nI r)) 36 g (mvF true (q2 + 1 - q) q 0 g).1)) ?_
              refine v_istore (lv' := [(5, .int ((mvF true (q2 + 1 - q) q 0 g).2)), (0, rf Λ 197), (1, .int (nI k)), (2, .int ((rdX X L).1)), (3, .int mv), (4, .int (nI i))]) hC dX4_readRanges_102 (by decide) rfl ?_
              refine v_iload hC dX4_readRanges_104 0 rfl ?_
              refine v_if_ge (tgt := 112) hC dX4_readRanges_106 (by decide) (fun c106 => ?_) (fun c106 => ?_)
              · have c106' := Int32.not_lt.mpr c106
                refine v_iload_n hC dX4_readRanges_112 4 rfl ?_
                refine v_iload hC dX4_readRanges_113 0 rfl ?_
                refine v_iadd (x := mv) (y := (mvF true (q2 + 1 - q) q 0 g).2) hC dX4_readRanges_115 ?_
                refine v_istore_n (lv' := [(3, .int (mv + ((mvF true (q2 + 1 - q) q 0 g).2))), (5, .int ((mvF true (q2 + 1 - q) q 0 g).2)), (0, rf Λ 197), (1, .int (nI k)), (2, .int ((rdX X L).1)), (4, .int (nI i))]) hC dX4_readRanges_116 (by decide) rfl ?_
                refine v_iinc (j := 5) (v := nI (i + 1)) (lv' := [(4, .int (nI (i + 1))), (3, .int (mv + ((mvF true (q2 + 1 - q) q 0 g).2))), (5, .int ((mvF true (q2 + 1 - q) q 0 g).2)), (0, rf Λ 197), (1, .int (nI k)), (2, .int ((rdX X L).1))]) hC dX4_readRanges_117 rfl (nI_add i 1) (by decide) rfl ?_
                refine v_goto (tgt := 62) hC dX4_readRanges_120 (by decide) ?_
                refine v_sub (lv' := [(0, rf Λ 197), (1, .int (nI k)), (2, .int ((rdX X L).1)), (3, .int (mv + ((mvF true (q2 + 1 - q) q 0 g).2))), (4, .int (nI (i + 1)))]) [3, 4, 5, 1, 0] rfl ?_
                refine v_mem (C' := CC Λ (xFi (xmS (xeS (xbS X b) e) (nI r)) 36 ((mvF true (q2 + 1 - q) q 0 g).1)) Y) rfl ?_
                exact ih62 (i + 1) (mv + (mvF true (q2 + 1 - q) q 0 g).2) ((mvF true (q2 + 1 - q) q 0 g).1) _ (by omega) (by rw [← hr, show r - i = (r - (i + 1)) + 1 by omega, rlF, eq1, eq2, ix_nI (show q < 2 ^ 31 by omega), ix_nI (show q2 < 2 ^ 31 by omega), if_neg c106']) rfl (by omega)
              · have c106' := Int32.not_le.mp c106
                refine v_iload hC dX4_readRanges_109 0 rfl ?_
                have e : rrX X t m L (nI k) = ((mvF true (q2 + 1 - q) q 0 g).2, (xFi (xmS (xeS (xbS X b) e) (nI r)) 36 (mvF true (q2 + 1 - q) q 0 g).1)) := by rw [rrX, if_neg (by rw [c5]; decide), if_neg (fun h => h c20), eZ, hik, show ix (xm (xmS (xeS (xbS X b) e) (nI r))) = r from hir, rrC, if_neg (by rw [c35]; decide), ← hr, show r - i = (r - (i + 1)) + 1 by omega, rlF, eq1, eq2, ix_nI (show q < 2 ^ 31 by omega), ix_nI (show q2 < 2 ^ 31 by omega), if_pos c106']; rfl
                exact v_iretX hC hR e dX4_readRanges_111
        refine v_sub (lv' := [(0, rf Λ 197), (1, .int (nI k)), (2, .int ((rdX X L).1)), (3, .int 0), (4, .int 0)]) [3, 4, 2, 1, 0] rfl ?_
        refine v_mem (C' := CC Λ (xFi (xmS (xeS (xbS X b) e) (nI r)) 36 (cpF ((xmS (xeS (xbS X b) e) (nI r)).1 k) ((xmS (xeS (xbS X b) e) (nI r)).1 36))) Y) rfl ?_
        exact L62 _ 0 0 (cpF ((xmS (xeS (xbS X b) e) (nI r)).1 k) ((xmS (xeS (xbS X b) e) (nI r)).1 36)) _ (by omega) rfl rfl (Nat.lt_succ_self _)
      · skip
        refine v_bipush (v := (-2)) hC dX4_readRanges_38 (by decide) ?_
        have e : rrX X t m L (nI k) = ((-2), (xmS (xeS (xbS X b) e) (nI r))) := by rw [rrX, if_neg (by rw [c5]; decide), if_neg (fun h => h c20), eZ, hik, show ix (xm (xmS (xeS (xbS X b) e) (nI r))) = r from hir, rrC, if_pos c35]
        exact v_iretX hC hR e dX4_readRanges_40
    · skip
      refine v_bipush (v := (-100)) hC dX4_readRanges_23 (by decide) ?_
      refine v_iload_n hC dX4_readRanges_25 0 rfl ?_
      refine v_isub (x := (-100)) (y := (rdX X L).1) hC dX4_readRanges_26 ?_
      have e : rrX X t m L (nI k) = ((-100) - ((rdX X L).1), (rdX X L).2) := by simp [rrX, c5, hik, c20]
      exact v_iretX hC hR e dX4_readRanges_27
  · skip
    refine v_iconst (v := (-1)) hC dX4_readRanges_8 (by decide) ?_
    have e : rrX X t m L s = ((-1), X) := by simp [rrX, c5]
    exact v_iretX hC hR e dX4_readRanges_9
