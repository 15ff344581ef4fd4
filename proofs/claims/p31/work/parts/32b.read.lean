theorem in_X3_read_X3 : ∀ w ∈ wsX30, w ∈ wsX3_read := by decide +kernel
theorem fl_X3_read_22 : Cond.fieldLink RX3 22 "BoatSets$RangeText" "ranges" "I" ∈ wsX3_read := by decide +kernel
theorem fl_X3_read_26 : Cond.fieldLink RX3 26 "BoatSets$RangeText" "length" "I" ∈ wsX3_read := by decide +kernel
theorem fl_X3_read_9 : Cond.fieldLink RX3 9 "BoatSets$RangeText" "characters" "[C" ∈ wsX3_read := by decide +kernel
theorem hd_X3_read : yX3_read.cls = RX3 ∧ yX3_read.cls ≠ "java/lang/invoke/MethodHandle" ∧ yX3_read.cls ≠ "java/lang/invoke/VarHandle" ∧ (parseMethodDescriptor yX3_read.desc).map (fun d => d.parameters.length) = some 0 := by decide +kernel
set_option maxHeartbeats 400000 in
set_option maxRecDepth 100000 in
theorem c_X3_read (Λ : Lk) (X : XS) (Y : YS) {L : Nat} (hl0 : xl X = nI L) (hl60 : L ≤ 60) : Con Λ yX3_read wsX3_read { frames := 1, cells := 0, slots := 0, locals := 22 } [rf Λ 200] (CC Λ X Y) (some (.int ((rdX X L).1))) (CC Λ ((rdX X L).2) Y) := by
  refine con_start (cc := cX3_read) (maxL := 7) (ret := (some .int)) (by decide) rfl (Nat.le_of_ble_eq_true rfl) ?_
  intro κ hC hR
  have hC : Ok Λ { frames := 1, cells := 0, slots := 0, locals := 22 } cX3_read wsX3_read RX3 7 κ := hC
  refine v_args (lv' := [(0, rf Λ 200)]) rfl ?_
  refine v_aload_n hC dX3_read_0 0 rfl ?_
  refine v_iconst (v := 0) hC dX3_read_1 (by decide) ?_
  refine v_put (T := TX3) (N := 5) (v := .int 0) (ty := .int) hC 200 (nR_of (by decide)) (cc_200 Λ X Y) in_X3_read_X3 tyX3 tyX3_ok nmX3 rfl 4 (by decide) fl_X3_read_22 rfl (by decide +kernel) rfl rfl (Nat.le_of_ble_eq_true rfl) dX3_read_2 ?_
  refine v_mem (cs_m Λ X Y 0) ?_
  refine v_iconst (v := 0) hC dX3_read_5 (by decide) ?_
  refine v_istore_n (lv' := [(1, .int 0), (0, rf Λ 200)]) hC dX3_read_6 (by decide) rfl ?_
  refine v_iconst (v := 0) hC dX3_read_7 (by decide) ?_
  refine v_istore_n (lv' := [(2, .int 0), (1, .int 0), (0, rf Λ 200)]) hC dX3_read_8 (by decide) rfl ?_
  refine v_iconst (v := 0) hC dX3_read_9 (by decide) ?_
  refine v_istore_n (lv' := [(3, .int 0), (2, .int 0), (1, .int 0), (0, rf Λ 200)]) hC dX3_read_10 (by decide) rfl ?_
  refine v_iconst (v := 0) hC dX3_read_11 (by decide) ?_
  refine v_istore (lv' := [(4, .int 0), (3, .int 0), (2, .int 0), (1, .int 0), (0, rf Λ 200)]) hC dX3_read_12 (by decide) rfl ?_
  refine v_iconst (v := 0) hC dX3_read_14 (by decide) ?_
  refine v_istore (lv' := [(5, .int 0), (4, .int 0), (3, .int 0), (2, .int 0), (1, .int 0), (0, rf Λ 200)]) hC dX3_read_15 (by decide) rfl ?_
  have L17 : ∀ (fu17 : Nat) (i : Nat) (d : Nat) (f : Int32) (v : Int32) (s : Bool) (Z : XS) (r : Nat) (x1 : Int32) (x4 : Int32) (x5 : Int32), i ≤ L → d ≤ i → r ≤ 30 → xm Z = nI r → xl Z = nI L → xc Z = xc X → rdC (xc X) L (L - i) i d f v s Z r = rdX X L → x1 = nI d → x4 = bI s → x5 = nI i → L - i < fu17 → V Λ κ (CC Λ Z Y) 17 [(0, rf Λ 200), (1, .int x1), (2, .int f), (3, .int v), (4, .int x4), (5, .int x5)] [] := by
    intro fu17
    induction fu17 with
    | zero => intro i d f v s Z r x1 x4 x5 hi hd hr30 hZ0 hZl hZc hr e1 e4 e5 hfu17; exact absurd hfu17 (Nat.not_lt_zero _)
    | succ fu17 ih17 =>
      intro i d f v s Z r x1 x4 x5 hi hd hr30 hZ0 hZl hZc hr e1 e4 e5 hfu17
      subst e1
      subst e4
      subst e5
      refine v_iload hC dX3_read_17 5 rfl ?_
      refine v_aload_n hC dX3_read_19 0 rfl ?_
      refine v_get (T := TX3) (N := 5) (v := .int (xl Z)) hC 200 (nR_of (by decide)) (cc_200 Λ Z Y) in_X3_read_X3 rfl 3 (by decide) fl_X3_read_26 rfl dX3_read_20 ?_
      refine v_topi (y := nI L) hZl ?_
      refine v_nge (a := i) (b := L) (tgt := 156) hC dX3_read_23 (by decide) rfl rfl (by omega) (by omega) (fun c23 => ?_) (fun c23 => ?_)
      · have c23' := Nat.not_lt.mpr c23
        refine v_iload_n hC dX3_read_156 1 rfl ?_
        refine v_zne (a := d) (tgt := 165) hC dX3_read_157 (by decide) rfl (by omega) (fun c157 => ?_) (fun c157 => ?_)
        · skip
          refine v_aload_n hC dX3_read_165 0 rfl ?_
          refine v_iload hC dX3_read_166 4 rfl ?_
          refine v_beq (b := s) (tgt := 175) hC dX3_read_168 (by decide) (fun c168 => ?_) (fun c168 => ?_)
          · skip
            refine v_iload_n hC dX3_read_175 3 rfl ?_
            refine v_iload_n hC dX3_read_176 3 rfl ?_
            refine v_callVv (C2 := CC Λ (ntX Z r v v) Y) (As := [.int v, .int v]) (rest := []) hC 2 200 (c_X3_noteRange Λ Z Y (u := v) (v := v) (r := r) hZ0 (by omega)) (nR_of (by decide)) (cc_200 Λ Z Y) rfl gX3_read_X3_noteRange rfl rfl rfl hd_X3_noteRange ⟨by decide, by decide⟩ rfl rfl (Nat.le_of_ble_eq_true rfl) dX3_read_177 ?_
            refine v_iconst (v := (-1)) hC dX3_read_180 (by decide) ?_
            have e : rdX X L = ((-1), (ntX Z r v v)) := by rw [← hr, show L - i = 0 by omega, rdC, if_neg c157, if_neg (by rw [c168]; decide)]
            exact v_iretX hC hR e dX3_read_181
          · skip
            refine v_iload_n hC dX3_read_171 2 rfl ?_
            refine v_goto (tgt := 176) hC dX3_read_172 (by decide) ?_
            refine v_iload_n hC dX3_read_176 3 rfl ?_
            refine v_callVv (C2 := CC Λ (ntX Z r f v) Y) (As := [.int f, .int v]) (rest := []) hC 2 200 (c_X3_noteRange Λ Z Y (u := f) (v := v) (r := r) hZ0 (by omega)) (nR_of (by decide)) (cc_200 Λ Z Y) rfl gX3_read_X3_noteRange rfl rfl rfl hd_X3_noteRange ⟨by decide, by decide⟩ rfl rfl (Nat.le_of_ble_eq_true rfl) dX3_read_177 ?_
            refine v_iconst (v := (-1)) hC dX3_read_180 (by decide) ?_
            have e : rdX X L = ((-1), (ntX Z r f v)) := by rw [← hr, show L - i = 0 by omega, rdC, if_neg c157, if_pos c168]
            exact v_iretX hC hR e dX3_read_181
        · skip
          refine v_aload_n hC dX3_read_160 0 rfl ?_
          refine v_get (T := TX3) (N := 5) (v := .int (xl Z)) hC 200 (nR_of (by decide)) (cc_200 Λ Z Y) in_X3_read_X3 rfl 3 (by decide) fl_X3_read_26 rfl dX3_read_161 ?_
          refine v_topi (y := nI L) hZl ?_
          have e : rdX X L = (nI L, Z) := by rw [← hr, show L - i = 0 by omega, rdC, if_pos c157]
          exact v_iretX hC hR e dX3_read_164
      · have c23' := Nat.not_le.mpr c23
        refine v_aload_n hC dX3_read_26 0 rfl ?_
        refine v_get (T := TX3) (N := 5) (v := rf Λ 201) hC 200 (nR_of (by decide)) (cc_200 Λ Z Y) in_X3_read_X3 rfl 0 (by decide) fl_X3_read_9 rfl dX3_read_27 ?_
        refine v_iload hC dX3_read_30 5 rfl ?_
        refine v_cald (n := 60) (f := (xc Z)) hC 201 (nR_of (by decide)) (cc_201 Λ Z Y) i rfl (by omega) (by decide) dX3_read_32 ?_
        refine v_topi (y := (xc X i)) (by rw [hZc]) ?_
        refine v_istore (lv' := [(6, .int (xc X i)), (0, rf Λ 200), (1, .int (nI d)), (2, .int f), (3, .int v), (4, .int (bI s)), (5, .int (nI i))]) hC dX3_read_33 (by decide) rfl ?_
        refine v_iload hC dX3_read_35 0 rfl ?_
        refine v_bipush (v := 48) hC dX3_read_37 (by decide) ?_
        refine v_icmp_lt (x := (xc X i)) (y := 48) (tgt := 83) hC dX3_read_39 (by decide) (fun c39 => ?_) (fun c39 => ?_)
        · have c39' := Int32.not_le.mpr c39
          refine v_iload hC dX3_read_83 0 rfl ?_
          refine v_bipush (v := 45) hC dX3_read_85 (by decide) ?_
          refine v_icmp_ne (x := (xc X i)) (y := 45) (tgt := 111) hC dX3_read_87 (by decide) (fun c87 => ?_) (fun c87 => ?_)
          · skip
            refine v_iload hC dX3_read_111 0 rfl ?_
            refine v_bipush (v := 44) hC dX3_read_113 (by decide) ?_
            refine v_icmp_ne (x := (xc X i)) (y := 44) (tgt := 147) hC dX3_read_115 (by decide) (fun c115 => ?_) (fun c115 => ?_)
            · skip
              refine v_iload hC dX3_read_147 6 rfl ?_
              have e : rdX X L = (nI i, Z) := by rw [← hr, show L - i = (L - (i + 1)) + 1 by omega, rdC, if_neg (fun h => c39' h.1), if_neg (fun h => c87 h.1), if_neg (fun h => c115 h.1)]
              exact v_iretX hC hR e dX3_read_149
            · skip
              refine v_iload_n hC dX3_read_118 2 rfl ?_
              refine v_zle (a := d) (tgt := 147) hC dX3_read_119 (by decide) rfl (by omega) (fun c119 => ?_) (fun c119 => ?_)
              · skip
                refine v_iload hC dX3_read_147 6 rfl ?_
                have e : rdX X L = (nI i, Z) := by rw [← hr, show L - i = (L - (i + 1)) + 1 by omega, rdC, if_neg (fun h => c39' h.1), if_neg (fun h => c87 h.1), if_neg (fun h => absurd h.2 (by omega))]
                exact v_iretX hC hR e dX3_read_149
              · skip
                refine v_aload_n hC dX3_read_122 1 rfl ?_
                refine v_iload hC dX3_read_123 5 rfl ?_
                refine v_beq (b := s) (tgt := 132) hC dX3_read_125 (by decide) (fun c125 => ?_) (fun c125 => ?_)
                · skip
                  refine v_iload_n hC dX3_read_132 4 rfl ?_
                  refine v_iload_n hC dX3_read_133 4 rfl ?_
                  refine v_callVv (C2 := CC Λ (ntX Z r v v) Y) (As := [.int v, .int v]) (rest := []) hC 2 200 (c_X3_noteRange Λ Z Y (u := v) (v := v) (r := r) hZ0 (by omega)) (nR_of (by decide)) (cc_200 Λ Z Y) rfl gX3_read_X3_noteRange rfl rfl rfl hd_X3_noteRange ⟨by decide, by decide⟩ rfl rfl (Nat.le_of_ble_eq_true rfl) dX3_read_134 ?_
                  refine v_iconst (v := 0) hC dX3_read_137 (by decide) ?_
                  refine v_istore (lv' := [(4, .int 0), (6, .int (xc X i)), (0, rf Λ 200), (1, .int (nI d)), (2, .int f), (3, .int v), (5, .int (nI i))]) hC dX3_read_138 (by decide) rfl ?_
                  refine v_iconst (v := 0) hC dX3_read_140 (by decide) ?_
                  refine v_istore_n (lv' := [(3, .int 0), (4, .int 0), (6, .int (xc X i)), (0, rf Λ 200), (1, .int (nI d)), (2, .int f), (5, .int (nI i))]) hC dX3_read_141 (by decide) rfl ?_
                  refine v_iconst (v := 0) hC dX3_read_142 (by decide) ?_
                  refine v_istore_n (lv' := [(1, .int 0), (3, .int 0), (4, .int 0), (6, .int (xc X i)), (0, rf Λ 200), (2, .int f), (5, .int (nI i))]) hC dX3_read_143 (by decide) rfl ?_
                  refine v_goto (tgt := 150) hC dX3_read_144 (by decide) ?_
                  refine v_iinc (j := 6) (v := nI (i + 1)) (lv' := [(5, .int (nI (i + 1))), (1, .int 0), (3, .int 0), (4, .int 0), (6, .int (xc X i)), (0, rf Λ 200), (2, .int f)]) hC dX3_read_150 rfl (nI_add i 1) (by decide) rfl ?_
                  refine v_goto (tgt := 17) hC dX3_read_153 (by decide) ?_
                  refine v_sub (lv' := [(0, rf Λ 200), (1, .int 0), (2, .int f), (3, .int 0), (4, .int 0), (5, .int (nI (i + 1)))]) [5, 1, 6, 2, 3, 0] rfl ?_
                  refine v_mem (C' := CC Λ (ntX Z r v v) Y) rfl ?_
                  exact ih17 (i + 1) 0 f 0 false (ntX Z r v v) (ntR r) _ _ _ (by omega) (by omega) (ntR_le hr30) (ntX_m hZ0) (ntX_l.trans hZl) (ntX_c.trans hZc) (by rw [← hr, show L - i = (L - (i + 1)) + 1 by omega, rdC, if_neg (fun h => c39' h.1), if_neg (fun h => c87 h.1), if_pos ⟨c115, by omega⟩, if_neg (by rw [c125]; decide)]) rfl rfl rfl (by omega)
                · skip
                  refine v_iload_n hC dX3_read_128 3 rfl ?_
                  refine v_goto (tgt := 133) hC dX3_read_129 (by decide) ?_
                  refine v_iload_n hC dX3_read_133 4 rfl ?_
                  refine v_callVv (C2 := CC Λ (ntX Z r f v) Y) (As := [.int f, .int v]) (rest := []) hC 2 200 (c_X3_noteRange Λ Z Y (u := f) (v := v) (r := r) hZ0 (by omega)) (nR_of (by decide)) (cc_200 Λ Z Y) rfl gX3_read_X3_noteRange rfl rfl rfl hd_X3_noteRange ⟨by decide, by decide⟩ rfl rfl (Nat.le_of_ble_eq_true rfl) dX3_read_134 ?_
                  refine v_iconst (v := 0) hC dX3_read_137 (by decide) ?_
                  refine v_istore (lv' := [(4, .int 0), (6, .int (xc X i)), (0, rf Λ 200), (1, .int (nI d)), (2, .int f), (3, .int v), (5, .int (nI i))]) hC dX3_read_138 (by decide) rfl ?_
                  refine v_iconst (v := 0) hC dX3_read_140 (by decide) ?_
                  refine v_istore_n (lv' := [(3, .int 0), (4, .int 0), (6, .int (xc X i)), (0, rf Λ 200), (1, .int (nI d)), (2, .int f), (5, .int (nI i))]) hC dX3_read_141 (by decide) rfl ?_
                  refine v_iconst (v := 0) hC dX3_read_142 (by decide) ?_
                  refine v_istore_n (lv' := [(1, .int 0), (3, .int 0), (4, .int 0), (6, .int (xc X i)), (0, rf Λ 200), (2, .int f), (5, .int (nI i))]) hC dX3_read_143 (by decide) rfl ?_
                  refine v_goto (tgt := 150) hC dX3_read_144 (by decide) ?_
                  refine v_iinc (j := 6) (v := nI (i + 1)) (lv' := [(5, .int (nI (i + 1))), (1, .int 0), (3, .int 0), (4, .int 0), (6, .int (xc X i)), (0, rf Λ 200), (2, .int f)]) hC dX3_read_150 rfl (nI_add i 1) (by decide) rfl ?_
                  refine v_goto (tgt := 17) hC dX3_read_153 (by decide) ?_
                  refine v_sub (lv' := [(0, rf Λ 200), (1, .int 0), (2, .int f), (3, .int 0), (4, .int 0), (5, .int (nI (i + 1)))]) [5, 1, 6, 2, 3, 0] rfl ?_
                  refine v_mem (C' := CC Λ (ntX Z r f v) Y) rfl ?_
                  exact ih17 (i + 1) 0 f 0 false (ntX Z r f v) (ntR r) _ _ _ (by omega) (by omega) (ntR_le hr30) (ntX_m hZ0) (ntX_l.trans hZl) (ntX_c.trans hZc) (by rw [← hr, show L - i = (L - (i + 1)) + 1 by omega, rdC, if_neg (fun h => c39' h.1), if_neg (fun h => c87 h.1), if_pos ⟨c115, by omega⟩, if_pos c125]) rfl rfl rfl (by omega)
          · skip
            refine v_iload_n hC dX3_read_90 2 rfl ?_
            refine v_zle (a := d) (tgt := 111) hC dX3_read_91 (by decide) rfl (by omega) (fun c91 => ?_) (fun c91 => ?_)
            · skip
              refine v_iload hC dX3_read_111 0 rfl ?_
              refine v_bipush (v := 44) hC dX3_read_113 (by decide) ?_
              refine v_icmp_ne (x := (xc X i)) (y := 44) (tgt := 147) hC dX3_read_115 (by decide) (fun c115 => ?_) (fun c115 => ?_)
              · skip
                refine v_iload hC dX3_read_147 6 rfl ?_
                have e : rdX X L = (nI i, Z) := by rw [← hr, show L - i = (L - (i + 1)) + 1 by omega, rdC, if_neg (fun h => c39' h.1), if_neg (fun h => absurd h.2.1 (by omega)), if_neg (fun h => c115 h.1)]
                exact v_iretX hC hR e dX3_read_149
              · skip
                refine v_iload_n hC dX3_read_118 2 rfl ?_
                refine v_zle (a := d) (tgt := 147) hC dX3_read_119 (by decide) rfl (by omega) (fun c119 => ?_) (fun c119 => ?_)
                · skip
                  refine v_iload hC dX3_read_147 6 rfl ?_
                  have e : rdX X L = (nI i, Z) := by rw [← hr, show L - i = (L - (i + 1)) + 1 by omega, rdC, if_neg (fun h => c39' h.1), if_neg (fun h => absurd h.2.1 (by omega)), if_neg (fun h => absurd h.2 (by omega))]
                  exact v_iretX hC hR e dX3_read_149
                · skip
                  refine v_aload_n hC dX3_read_122 1 rfl ?_
                  refine v_iload hC dX3_read_123 5 rfl ?_
                  refine v_beq (b := s) (tgt := 132) hC dX3_read_125 (by decide) (fun c125 => ?_) (fun c125 => ?_)
                  · skip
                    refine v_iload_n hC dX3_read_132 4 rfl ?_
                    refine v_iload_n hC dX3_read_133 4 rfl ?_
                    refine v_callVv (C2 := CC Λ (ntX Z r v v) Y) (As := [.int v, .int v]) (rest := []) hC 2 200 (c_X3_noteRange Λ Z Y (u := v) (v := v) (r := r) hZ0 (by omega)) (nR_of (by decide)) (cc_200 Λ Z Y) rfl gX3_read_X3_noteRange rfl rfl rfl hd_X3_noteRange ⟨by decide, by decide⟩ rfl rfl (Nat.le_of_ble_eq_true rfl) dX3_read_134 ?_
                    refine v_iconst (v := 0) hC dX3_read_137 (by decide) ?_
                    refine v_istore (lv' := [(4, .int 0), (6, .int (xc X i)), (0, rf Λ 200), (1, .int (nI d)), (2, .int f), (3, .int v), (5, .int (nI i))]) hC dX3_read_138 (by decide) rfl ?_
                    refine v_iconst (v := 0) hC dX3_read_140 (by decide) ?_
                    refine v_istore_n (lv' := [(3, .int 0), (4, .int 0), (6, .int (xc X i)), (0, rf Λ 200), (1, .int (nI d)), (2, .int f), (5, .int (nI i))]) hC dX3_read_141 (by decide) rfl ?_
                    refine v_iconst (v := 0) hC dX3_read_142 (by decide) ?_
                    refine v_istore_n (lv' := [(1, .int 0), (3, .int 0), (4, .int 0), (6, .int (xc X i)), (0, rf Λ 200), (2, .int f), (5, .int (nI i))]) hC dX3_read_143 (by decide) rfl ?_
                    refine v_goto (tgt := 150) hC dX3_read_144 (by decide) ?_
                    refine v_iinc (j := 6) (v := nI (i + 1)) (lv' := [(5, .int (nI (i + 1))), (1, .int 0), (3, .int 0), (4, .int 0), (6, .int (xc X i)), (0, rf Λ 200), (2, .int f)]) hC dX3_read_150 rfl (nI_add i 1) (by decide) rfl ?_
                    refine v_goto (tgt := 17) hC dX3_read_153 (by decide) ?_
                    refine v_sub (lv' := [(0, rf Λ 200), (1, .int 0), (2, .int f), (3, .int 0), (4, .int 0), (5, .int (nI (i + 1)))]) [5, 1, 6, 2, 3, 0] rfl ?_
                    refine v_mem (C' := CC Λ (ntX Z r v v) Y) rfl ?_
                    exact ih17 (i + 1) 0 f 0 false (ntX Z r v v) (ntR r) _ _ _ (by omega) (by omega) (ntR_le hr30) (ntX_m hZ0) (ntX_l.trans hZl) (ntX_c.trans hZc) (by rw [← hr, show L - i = (L - (i + 1)) + 1 by omega, rdC, if_neg (fun h => c39' h.1), if_neg (fun h => absurd h.2.1 (by omega)), if_pos ⟨c115, by omega⟩, if_neg (by rw [c125]; decide)]) rfl rfl rfl (by omega)
                  · skip
                    refine v_iload_n hC dX3_read_128 3 rfl ?_
                    refine v_goto (tgt := 133) hC dX3_read_129 (by decide) ?_
                    refine v_iload_n hC dX3_read_133 4 rfl ?_
                    refine v_callVv (C2 := CC Λ (ntX Z r f v) Y) (As := [.int f, .int v]) (rest := []) hC 2 200 (c_X3_noteRange Λ Z Y (u := f) (v := v) (r := r) hZ0 (by omega)) (nR_of (by decide)) (cc_200 Λ Z Y) rfl gX3_read_X3_noteRange rfl rfl rfl hd_X3_noteRange ⟨by decide, by decide⟩ rfl rfl (Nat.le_of_ble_eq_true rfl) dX3_read_134 ?_
                    refine v_iconst (v := 0) hC dX3_read_137 (by decide) ?_
                    refine v_istore (lv' := [(4, .int 0), (6, .int (xc X i)), (0, rf Λ 200), (1, .int (nI d)), (2, .int f), (3, .int v), (5, .int (nI i))]) hC dX3_read_138 (by decide) rfl ?_
                    refine v_iconst (v := 0) hC dX3_read_140 (by decide) ?_
                    refine v_istore_n (lv' := [(3, .int 0), (4, .int 0), (6, .int (xc X i)), (0, rf Λ 200), (1, .int (nI d)), (2, .int f), (5, .int (nI i))]) hC dX3_read_141 (by decide) rfl ?_
                    refine v_iconst (v := 0) hC dX3_read_142 (by decide) ?_
                    refine v_istore_n (lv' := [(1, .int 0), (3, .int 0), (4, .int 0), (6, .int (xc X i)), (0, rf Λ 200), (2, .int f), (5, .int (nI i))]) hC dX3_read_143 (by decide) rfl ?_
                    refine v_goto (tgt := 150) hC dX3_read_144 (by decide) ?_
                    refine v_iinc (j := 6) (v := nI (i + 1)) (lv' := [(5, .int (nI (i + 1))), (1, .int 0), (3, .int 0), (4, .int 0), (6, .int (xc X i)), (0, rf Λ 200), (2, .int f)]) hC dX3_read_150 rfl (nI_add i 1) (by decide) rfl ?_
                    refine v_goto (tgt := 17) hC dX3_read_153 (by decide) ?_
                    refine v_sub (lv' := [(0, rf Λ 200), (1, .int 0), (2, .int f), (3, .int 0), (4, .int 0), (5, .int (nI (i + 1)))]) [5, 1, 6, 2, 3, 0] rfl ?_
                    refine v_mem (C' := CC Λ (ntX Z r f v) Y) rfl ?_
                    exact ih17 (i + 1) 0 f 0 false (ntX Z r f v) (ntR r) _ _ _ (by omega) (by omega) (ntR_le hr30) (ntX_m hZ0) (ntX_l.trans hZl) (ntX_c.trans hZc) (by rw [← hr, show L - i = (L - (i + 1)) + 1 by omega, rdC, if_neg (fun h => c39' h.1), if_neg (fun h => absurd h.2.1 (by omega)), if_pos ⟨c115, by omega⟩, if_pos c125]) rfl rfl rfl (by omega)
            · skip
              refine v_iload hC dX3_read_94 5 rfl ?_
              refine v_bne (b := s) (tgt := 111) hC dX3_read_96 (by decide) (fun c96 => ?_) (fun c96 => ?_)
              · skip
                refine v_iload hC dX3_read_111 0 rfl ?_
                refine v_bipush (v := 44) hC dX3_read_113 (by decide) ?_
                refine v_icmp_ne (x := (xc X i)) (y := 44) (tgt := 147) hC dX3_read_115 (by decide) (fun c115 => ?_) (fun c115 => ?_)
                · skip
                  refine v_iload hC dX3_read_147 6 rfl ?_
                  have e : rdX X L = (nI i, Z) := by rw [← hr, show L - i = (L - (i + 1)) + 1 by omega, rdC, if_neg (fun h => c39' h.1), if_neg (fun h => absurd (c96.symm.trans h.2.2) (by decide)), if_neg (fun h => c115 h.1)]
                  exact v_iretX hC hR e dX3_read_149
                · skip
                  refine v_iload_n hC dX3_read_118 2 rfl ?_
                  refine v_zle (a := d) (tgt := 147) hC dX3_read_119 (by decide) rfl (by omega) (fun c119 => ?_) (fun c119 => ?_)
                  · skip
                    refine v_iload hC dX3_read_147 6 rfl ?_
                    have e : rdX X L = (nI i, Z) := by rw [← hr, show L - i = (L - (i + 1)) + 1 by omega, rdC, if_neg (fun h => c39' h.1), if_neg (fun h => absurd (c96.symm.trans h.2.2) (by decide)), if_neg (fun h => absurd h.2 (by omega))]
                    exact v_iretX hC hR e dX3_read_149
                  · skip
                    refine v_aload_n hC dX3_read_122 1 rfl ?_
                    refine v_iload hC dX3_read_123 5 rfl ?_
                    refine v_beq (b := s) (tgt := 132) hC dX3_read_125 (by decide) (fun c125 => ?_) (fun c125 => ?_)
                    · skip
                      refine v_iload_n hC dX3_read_132 4 rfl ?_
                      refine v_iload_n hC dX3_read_133 4 rfl ?_
                      refine v_callVv (C2 := CC Λ (ntX Z r v v) Y) (As := [.int v, .int v]) (rest := []) hC 2 200 (c_X3_noteRange Λ Z Y (u := v) (v := v) (r := r) hZ0 (by omega)) (nR_of (by decide)) (cc_200 Λ Z Y) rfl gX3_read_X3_noteRange rfl rfl rfl hd_X3_noteRange ⟨by decide, by decide⟩ rfl rfl (Nat.le_of_ble_eq_true rfl) dX3_read_134 ?_
                      refine v_iconst (v := 0) hC dX3_read_137 (by decide) ?_
                      refine v_istore (lv' := [(4, .int 0), (6, .int (xc X i)), (0, rf Λ 200), (1, .int (nI d)), (2, .int f), (3, .int v), (5, .int (nI i))]) hC dX3_read_138 (by decide) rfl ?_
                      refine v_iconst (v := 0) hC dX3_read_140 (by decide) ?_
                      refine v_istore_n (lv' := [(3, .int 0), (4, .int 0), (6, .int (xc X i)), (0, rf Λ 200), (1, .int (nI d)), (2, .int f), (5, .int (nI i))]) hC dX3_read_141 (by decide) rfl ?_
                      refine v_iconst (v := 0) hC dX3_read_142 (by decide) ?_
                      refine v_istore_n (lv' := [(1, .int 0), (3, .int 0), (4, .int 0), (6, .int (xc X i)), (0, rf Λ 200), (2, .int f), (5, .int (nI i))]) hC dX3_read_143 (by decide) rfl ?_
                      refine v_goto (tgt := 150) hC dX3_read_144 (by decide) ?_
                      refine v_iinc (j := 6) (v := nI (i + 1)) (lv' := [(5, .int (nI (i + 1))), (1, .int 0), (3, .int 0), (4, .int 0), (6, .int (xc X i)), (0, rf Λ 200), (2, .int f)]) hC dX3_read_150 rfl (nI_add i 1) (by decide) rfl ?_
                      refine v_goto (tgt := 17) hC dX3_read_153 (by decide) ?_
                      refine v_sub (lv' := [(0, rf Λ 200), (1, .int 0), (2, .int f), (3, .int 0), (4, .int 0), (5, .int (nI (i + 1)))]) [5, 1, 6, 2, 3, 0] rfl ?_
                      refine v_mem (C' := CC Λ (ntX Z r v v) Y) rfl ?_
                      exact ih17 (i + 1) 0 f 0 false (ntX Z r v v) (ntR r) _ _ _ (by omega) (by omega) (ntR_le hr30) (ntX_m hZ0) (ntX_l.trans hZl) (ntX_c.trans hZc) (by rw [← hr, show L - i = (L - (i + 1)) + 1 by omega, rdC, if_neg (fun h => c39' h.1), if_neg (fun h => absurd (c96.symm.trans h.2.2) (by decide)), if_pos ⟨c115, by omega⟩, if_neg (by rw [c125]; decide)]) rfl rfl rfl (by omega)
                    · skip
                      refine v_iload_n hC dX3_read_128 3 rfl ?_
                      refine v_goto (tgt := 133) hC dX3_read_129 (by decide) ?_
                      refine v_iload_n hC dX3_read_133 4 rfl ?_
                      refine v_callVv (C2 := CC Λ (ntX Z r f v) Y) (As := [.int f, .int v]) (rest := []) hC 2 200 (c_X3_noteRange Λ Z Y (u := f) (v := v) (r := r) hZ0 (by omega)) (nR_of (by decide)) (cc_200 Λ Z Y) rfl gX3_read_X3_noteRange rfl rfl rfl hd_X3_noteRange ⟨by decide, by decide⟩ rfl rfl (Nat.le_of_ble_eq_true rfl) dX3_read_134 ?_
                      refine v_iconst (v := 0) hC dX3_read_137 (by decide) ?_
                      refine v_istore (lv' := [(4, .int 0), (6, .int (xc X i)), (0, rf Λ 200), (1, .int (nI d)), (2, .int f), (3, .int v), (5, .int (nI i))]) hC dX3_read_138 (by decide) rfl ?_
                      refine v_iconst (v := 0) hC dX3_read_140 (by decide) ?_
                      refine v_istore_n (lv' := [(3, .int 0), (4, .int 0), (6, .int (xc X i)), (0, rf Λ 200), (1, .int (nI d)), (2, .int f), (5, .int (nI i))]) hC dX3_read_141 (by decide) rfl ?_
                      refine v_iconst (v := 0) hC dX3_read_142 (by decide) ?_
                      refine v_istore_n (lv' := [(1, .int 0), (3, .int 0), (4, .int 0), (6, .int (xc X i)), (0, rf Λ 200), (2, .int f), (5, .int (nI i))]) hC dX3_read_143 (by decide) rfl ?_
                      refine v_goto (tgt := 150) hC dX3_read_144 (by decide) ?_
                      refine v_iinc (j := 6) (v := nI (i + 1)) (lv' := [(5, .int (nI (i + 1))), (1, .int 0), (3, .int 0), (4, .int 0), (6, .int (xc X i)), (0, rf Λ 200), (2, .int f)]) hC dX3_read_150 rfl (nI_add i 1) (by decide) rfl ?_
                      refine v_goto (tgt := 17) hC dX3_read_153 (by decide) ?_
                      refine v_sub (lv' := [(0, rf Λ 200), (1, .int 0), (2, .int f), (3, .int 0), (4, .int 0), (5, .int (nI (i + 1)))]) [5, 1, 6, 2, 3, 0] rfl ?_
                      refine v_mem (C' := CC Λ (ntX Z r f v) Y) rfl ?_
                      exact ih17 (i + 1) 0 f 0 false (ntX Z r f v) (ntR r) _ _ _ (by omega) (by omega) (ntR_le hr30) (ntX_m hZ0) (ntX_l.trans hZl) (ntX_c.trans hZc) (by rw [← hr, show L - i = (L - (i + 1)) + 1 by omega, rdC, if_neg (fun h => c39' h.1), if_neg (fun h => absurd (c96.symm.trans h.2.2) (by decide)), if_pos ⟨c115, by omega⟩, if_pos c125]) rfl rfl rfl (by omega)
              · skip
                refine v_iload_n hC dX3_read_99 4 rfl ?_
                refine v_istore_n (lv' := [(2, .int v), (6, .int (xc X i)), (0, rf Λ 200), (1, .int (nI d)), (3, .int v), (4, .int (bI s)), (5, .int (nI i))]) hC dX3_read_100 (by decide) rfl ?_
                refine v_iconst (v := 1) hC dX3_read_101 (by decide) ?_
                refine v_istore (lv' := [(4, .int 1), (2, .int v), (6, .int (xc X i)), (0, rf Λ 200), (1, .int (nI d)), (3, .int v), (5, .int (nI i))]) hC dX3_read_102 (by decide) rfl ?_
                refine v_iconst (v := 0) hC dX3_read_104 (by decide) ?_
                refine v_istore_n (lv' := [(3, .int 0), (4, .int 1), (2, .int v), (6, .int (xc X i)), (0, rf Λ 200), (1, .int (nI d)), (5, .int (nI i))]) hC dX3_read_105 (by decide) rfl ?_
                refine v_iconst (v := 0) hC dX3_read_106 (by decide) ?_
                refine v_istore_n (lv' := [(1, .int 0), (3, .int 0), (4, .int 1), (2, .int v), (6, .int (xc X i)), (0, rf Λ 200), (5, .int (nI i))]) hC dX3_read_107 (by decide) rfl ?_
                refine v_goto (tgt := 150) hC dX3_read_108 (by decide) ?_
                refine v_iinc (j := 6) (v := nI (i + 1)) (lv' := [(5, .int (nI (i + 1))), (1, .int 0), (3, .int 0), (4, .int 1), (2, .int v), (6, .int (xc X i)), (0, rf Λ 200)]) hC dX3_read_150 rfl (nI_add i 1) (by decide) rfl ?_
                refine v_goto (tgt := 17) hC dX3_read_153 (by decide) ?_
                refine v_sub (lv' := [(0, rf Λ 200), (1, .int 0), (2, .int v), (3, .int 0), (4, .int 1), (5, .int (nI (i + 1)))]) [6, 1, 4, 2, 3, 0] rfl ?_
                refine v_mem (C' := CC Λ Z Y) rfl ?_
                exact ih17 (i + 1) 0 v 0 true Z r _ _ _ (by omega) (by omega) hr30 hZ0 hZl hZc (by rw [← hr, show L - i = (L - (i + 1)) + 1 by omega, rdC, if_neg (fun h => c39' h.1), if_pos ⟨c87, by omega, c96⟩]) rfl rfl rfl (by omega)
        · have c39' := Int32.not_lt.mp c39
          refine v_iload hC dX3_read_42 0 rfl ?_
          refine v_bipush (v := 57) hC dX3_read_44 (by decide) ?_
          refine v_icmp_gt (x := (xc X i)) (y := 57) (tgt := 83) hC dX3_read_46 (by decide) (fun c46 => ?_) (fun c46 => ?_)
          · have c46' := Int32.not_le.mpr c46
            refine v_iload hC dX3_read_83 0 rfl ?_
            refine v_bipush (v := 45) hC dX3_read_85 (by decide) ?_
            refine v_icmp_ne (x := (xc X i)) (y := 45) (tgt := 111) hC dX3_read_87 (by decide) (fun c87 => ?_) (fun c87 => ?_)
            · skip
              refine v_iload hC dX3_read_111 0 rfl ?_
              refine v_bipush (v := 44) hC dX3_read_113 (by decide) ?_
              refine v_icmp_ne (x := (xc X i)) (y := 44) (tgt := 147) hC dX3_read_115 (by decide) (fun c115 => ?_) (fun c115 => ?_)
              · skip
                refine v_iload hC dX3_read_147 6 rfl ?_
                have e : rdX X L = (nI i, Z) := by rw [← hr, show L - i = (L - (i + 1)) + 1 by omega, rdC, if_neg (fun h => c46' h.2), if_neg (fun h => c87 h.1), if_neg (fun h => c115 h.1)]
                exact v_iretX hC hR e dX3_read_149
              · skip
                refine v_iload_n hC dX3_read_118 2 rfl ?_
                refine v_zle (a := d) (tgt := 147) hC dX3_read_119 (by decide) rfl (by omega) (fun c119 => ?_) (fun c119 => ?_)
                · skip
                  refine v_iload hC dX3_read_147 6 rfl ?_
                  have e : rdX X L = (nI i, Z) := by rw [← hr, show L - i = (L - (i + 1)) + 1 by omega, rdC, if_neg (fun h => c46' h.2), if_neg (fun h => c87 h.1), if_neg (fun h => absurd h.2 (by omega))]
                  exact v_iretX hC hR e dX3_read_149
                · skip
                  refine v_aload_n hC dX3_read_122 1 rfl ?_
                  refine v_iload hC dX3_read_123 5 rfl ?_
                  refine v_beq (b := s) (tgt := 132) hC dX3_read_125 (by decide) (fun c125 => ?_) (fun c125 => ?_)
                  · skip
                    refine v_iload_n hC dX3_read_132 4 rfl ?_
                    refine v_iload_n hC dX3_read_133 4 rfl ?_
                    refine v_callVv (C2 := CC Λ (ntX Z r v v) Y) (As := [.int v, .int v]) (rest := []) hC 2 200 (c_X3_noteRange Λ Z Y (u := v) (v := v) (r := r) hZ0 (by omega)) (nR_of (by decide)) (cc_200 Λ Z Y) rfl gX3_read_X3_noteRange rfl rfl rfl hd_X3_noteRange ⟨by decide, by decide⟩ rfl rfl (Nat.le_of_ble_eq_true rfl) dX3_read_134 ?_
                    refine v_iconst (v := 0) hC dX3_read_137 (by decide) ?_
                    refine v_istore (lv' := [(4, .int 0), (6, .int (xc X i)), (0, rf Λ 200), (1, .int (nI d)), (2, .int f), (3, .int v), (5, .int (nI i))]) hC dX3_read_138 (by decide) rfl ?_
                    refine v_iconst (v := 0) hC dX3_read_140 (by decide) ?_
                    refine v_istore_n (lv' := [(3, .int 0), (4, .int 0), (6, .int (xc X i)), (0, rf Λ 200), (1, .int (nI d)), (2, .int f), (5, .int (nI i))]) hC dX3_read_141 (by decide) rfl ?_
                    refine v_iconst (v := 0) hC dX3_read_142 (by decide) ?_
                    refine v_istore_n (lv' := [(1, .int 0), (3, .int 0), (4, .int 0), (6, .int (xc X i)), (0, rf Λ 200), (2, .int f), (5, .int (nI i))]) hC dX3_read_143 (by decide) rfl ?_
                    refine v_goto (tgt := 150) hC dX3_read_144 (by decide) ?_
                    refine v_iinc (j := 6) (v := nI (i + 1)) (lv' := [(5, .int (nI (i + 1))), (1, .int 0), (3, .int 0), (4, .int 0), (6, .int (xc X i)), (0, rf Λ 200), (2, .int f)]) hC dX3_read_150 rfl (nI_add i 1) (by decide) rfl ?_
                    refine v_goto (tgt := 17) hC dX3_read_153 (by decide) ?_
                    refine v_sub (lv' := [(0, rf Λ 200), (1, .int 0), (2, .int f), (3, .int 0), (4, .int 0), (5, .int (nI (i + 1)))]) [5, 1, 6, 2, 3, 0] rfl ?_
                    refine v_mem (C' := CC Λ (ntX Z r v v) Y) rfl ?_
                    exact ih17 (i + 1) 0 f 0 false (ntX Z r v v) (ntR r) _ _ _ (by omega) (by omega) (ntR_le hr30) (ntX_m hZ0) (ntX_l.trans hZl) (ntX_c.trans hZc) (by rw [← hr, show L - i = (L - (i + 1)) + 1 by omega, rdC, if_neg (fun h => c46' h.2), if_neg (fun h => c87 h.1), if_pos ⟨c115, by omega⟩, if_neg (by rw [c125]; decide)]) rfl rfl rfl (by omega)
                  · skip
                    refine v_iload_n hC dX3_read_128 3 rfl ?_
                    refine v_goto (tgt := 133) hC dX3_read_129 (by decide) ?_
                    refine v_iload_n hC dX3_read_133 4 rfl ?_
                    refine v_callVv (C2 := CC Λ (ntX Z r f v) Y) (As := [.int f, .int v]) (rest := []) hC 2 200 (c_X3_noteRange Λ Z Y (u := f) (v := v) (r := r) hZ0 (by omega)) (nR_of (by decide)) (cc_200 Λ Z Y) rfl gX3_read_X3_noteRange rfl rfl rfl hd_X3_noteRange ⟨by decide, by decide⟩ rfl rfl (Nat.le_of_ble_eq_true rfl) dX3_read_134 ?_
                    refine v_iconst (v := 0) hC dX3_read_137 (by decide) ?_
                    refine v_istore (lv' := [(4, .int 0), (6, .int (xc X i)), (0, rf Λ 200), (1, .int (nI d)), (2, .int f), (3, .int v), (5, .int (nI i))]) hC dX3_read_138 (by decide) rfl ?_
                    refine v_iconst (v := 0) hC dX3_read_140 (by decide) ?_
                    refine v_istore_n (lv' := [(3, .int 0), (4, .int 0), (6, .int (xc X i)), (0, rf Λ 200), (1, .int (nI d)), (2, .int f), (5, .int (nI i))]) hC dX3_read_141 (by decide) rfl ?_
                    refine v_iconst (v := 0) hC dX3_read_142 (by decide) ?_
                    refine v_istore_n (lv' := [(1, .int 0), (3, .int 0), (4, .int 0), (6, .int (xc X i)), (0, rf Λ 200), (2, .int f), (5, .int (nI i))]) hC dX3_read_143 (by decide) rfl ?_
                    refine v_goto (tgt := 150) hC dX3_read_144 (by decide) ?_
                    refine v_iinc (j := 6) (v := nI (i + 1)) (lv' := [(5, .int (nI (i + 1))), (1, .int 0), (3, .int 0), (4, .int 0), (6, .int (xc X i)), (0, rf Λ 200), (2, .int f)]) hC dX3_read_150 rfl (nI_add i 1) (by decide) rfl ?_
                    refine v_goto (tgt := 17) hC dX3_read_153 (by decide) ?_
                    refine v_sub (lv' := [(0, rf Λ 200), (1, .int 0), (2, .int f), (3, .int 0), (4, .int 0), (5, .int (nI (i + 1)))]) [5, 1, 6, 2, 3, 0] rfl ?_
                    refine v_mem (C' := CC Λ (ntX Z r f v) Y) rfl ?_
                    exact ih17 (i + 1) 0 f 0 false (ntX Z r f v) (ntR r) _ _ _ (by omega) (by omega) (ntR_le hr30) (ntX_m hZ0) (ntX_l.trans hZl) (ntX_c.trans hZc) (by rw [← hr, show L - i = (L - (i + 1)) + 1 by omega, rdC, if_neg (fun h => c46' h.2), if_neg (fun h => c87 h.1), if_pos ⟨c115, by omega⟩, if_pos c125]) rfl rfl rfl (by omega)
            · skip
              refine v_iload_n hC dX3_read_90 2 rfl ?_
              refine v_zle (a := d) (tgt := 111) hC dX3_read_91 (by decide) rfl (by omega) (fun c91 => ?_) (fun c91 => ?_)
              · skip
                refine v_iload hC dX3_read_111 0 rfl ?_
                refine v_bipush (v := 44) hC dX3_read_113 (by decide) ?_
                refine v_icmp_ne (x := (xc X i)) (y := 44) (tgt := 147) hC dX3_read_115 (by decide) (fun c115 => ?_) (fun c115 => ?_)
                · skip
                  refine v_iload hC dX3_read_147 6 rfl ?_
                  have e : rdX X L = (nI i, Z) := by rw [← hr, show L - i = (L - (i + 1)) + 1 by omega, rdC, if_neg (fun h => c46' h.2), if_neg (fun h => absurd h.2.1 (by omega)), if_neg (fun h => c115 h.1)]
                  exact v_iretX hC hR e dX3_read_149
                · skip
                  refine v_iload_n hC dX3_read_118 2 rfl ?_
                  refine v_zle (a := d) (tgt := 147) hC dX3_read_119 (by decide) rfl (by omega) (fun c119 => ?_) (fun c119 => ?_)
                  · skip
                    refine v_iload hC dX3_read_147 6 rfl ?_
                    have e : rdX X L = (nI i, Z) := by rw [← hr, show L - i = (L - (i + 1)) + 1 by omega, rdC, if_neg (fun h => c46' h.2), if_neg (fun h => absurd h.2.1 (by omega)), if_neg (fun h => absurd h.2 (by omega))]
                    exact v_iretX hC hR e dX3_read_149
                  · skip
                    refine v_aload_n hC dX3_read_122 1 rfl ?_
                    refine v_iload hC dX3_read_123 5 rfl ?_
                    refine v_beq (b := s) (tgt := 132) hC dX3_read_125 (by decide) (fun c125 => ?_) (fun c125 => ?_)
                    · skip
                      refine v_iload_n hC dX3_read_132 4 rfl ?_
                      refine v_iload_n hC dX3_read_133 4 rfl ?_
                      refine v_callVv (C2 := CC Λ (ntX Z r v v) Y) (As := [.int v, .int v]) (rest := []) hC 2 200 (c_X3_noteRange Λ Z Y (u := v) (v := v) (r := r) hZ0 (by omega)) (nR_of (by decide)) (cc_200 Λ Z Y) rfl gX3_read_X3_noteRange rfl rfl rfl hd_X3_noteRange ⟨by decide, by decide⟩ rfl rfl (Nat.le_of_ble_eq_true rfl) dX3_read_134 ?_
                      refine v_iconst (v := 0) hC dX3_read_137 (by decide) ?_
                      refine v_istore (lv' := [(4, .int 0), (6, .int (xc X i)), (0, rf Λ 200), (1, .int (nI d)), (2, .int f), (3, .int v), (5, .int (nI i))]) hC dX3_read_138 (by decide) rfl ?_
                      refine v_iconst (v := 0) hC dX3_read_140 (by decide) ?_
                      refine v_istore_n (lv' := [(3, .int 0), (4, .int 0), (6, .int (xc X i)), (0, rf Λ 200), (1, .int (nI d)), (2, .int f), (5, .int (nI i))]) hC dX3_read_141 (by decide) rfl ?_
                      refine v_iconst (v := 0) hC dX3_read_142 (by decide) ?_
                      refine v_istore_n (lv' := [(1, .int 0), (3, .int 0), (4, .int 0), (6, .int (xc X i)), (0, rf Λ 200), (2, .int f), (5, .int (nI i))]) hC dX3_read_143 (by decide) rfl ?_
                      refine v_goto (tgt := 150) hC dX3_read_144 (by decide) ?_
                      refine v_iinc (j := 6) (v := nI (i + 1)) (lv' := [(5, .int (nI (i + 1))), (1, .int 0), (3, .int 0), (4, .int 0), (6, .int (xc X i)), (0, rf Λ 200), (2, .int f)]) hC dX3_read_150 rfl (nI_add i 1) (by decide) rfl ?_
                      refine v_goto (tgt := 17) hC dX3_read_153 (by decide) ?_
                      refine v_sub (lv' := [(0, rf Λ 200), (1, .int 0), (2, .int f), (3, .int 0), (4, .int 0), (5, .int (nI (i + 1)))]) [5, 1, 6, 2, 3, 0] rfl ?_
                      refine v_mem (C' := CC Λ (ntX Z r v v) Y) rfl ?_
                      exact ih17 (i + 1) 0 f 0 false (ntX Z r v v) (ntR r) _ _ _ (by omega) (by omega) (ntR_le hr30) (ntX_m hZ0) (ntX_l.trans hZl) (ntX_c.trans hZc) (by rw [← hr, show L - i = (L - (i + 1)) + 1 by omega, rdC, if_neg (fun h => c46' h.2), if_neg (fun h => absurd h.2.1 (by omega)), if_pos ⟨c115, by omega⟩, if_neg (by rw [c125]; decide)]) rfl rfl rfl (by omega)
                    · skip
                      refine v_iload_n hC dX3_read_128 3 rfl ?_
                      refine v_goto (tgt := 133) hC dX3_read_129 (by decide) ?_
                      refine v_iload_n hC dX3_read_133 4 rfl ?_
                      refine v_callVv (C2 := CC Λ (ntX Z r f v) Y) (As := [.int f, .int v]) (rest := []) hC 2 200 (c_X3_noteRange Λ Z Y (u := f) (v := v) (r := r) hZ0 (by omega)) (nR_of (by decide)) (cc_200 Λ Z Y) rfl gX3_read_X3_noteRange rfl rfl rfl hd_X3_noteRange ⟨by decide, by decide⟩ rfl rfl (Nat.le_of_ble_eq_true rfl) dX3_read_134 ?_
                      refine v_iconst (v := 0) hC dX3_read_137 (by decide) ?_
                      refine v_istore (lv' := [(4, .int 0), (6, .int (xc X i)), (0, rf Λ 200), (1, .int (nI d)), (2, .int f), (3, .int v), (5, .int (nI i))]) hC dX3_read_138 (by decide) rfl ?_
                      refine v_iconst (v := 0) hC dX3_read_140 (by decide) ?_
                      refine v_istore_n (lv' := [(3, .int 0), (4, .int 0), (6, .int (xc X i)), (0, rf Λ 200), (1, .int (nI d)), (2, .int f), (5, .int (nI i))]) hC dX3_read_141 (by decide) rfl ?_
                      refine v_iconst (v := 0) hC dX3_read_142 (by decide) ?_
                      refine v_istore_n (lv' := [(1, .int 0), (3, .int 0), (4, .int 0), (6, .int (xc X i)), (0, rf Λ 200), (2, .int f), (5, .int (nI i))]) hC dX3_read_143 (by decide) rfl ?_
                      refine v_goto (tgt := 150) hC dX3_read_144 (by decide) ?_
                      refine v_iinc (j := 6) (v := nI (i + 1)) (lv' := [(5, .int (nI (i + 1))), (1, .int 0), (3, .int 0), (4, .int 0), (6, .int (xc X i)), (0, rf Λ 200), (2, .int f)]) hC dX3_read_150 rfl (nI_add i 1) (by decide) rfl ?_
                      refine v_goto (tgt := 17) hC dX3_read_153 (by decide) ?_
                      refine v_sub (lv' := [(0, rf Λ 200), (1, .int 0), (2, .int f), (3, .int 0), (4, .int 0), (5, .int (nI (i + 1)))]) [5, 1, 6, 2, 3, 0] rfl ?_
                      refine v_mem (C' := CC Λ (ntX Z r f v) Y) rfl ?_
                      exact ih17 (i + 1) 0 f 0 false (ntX Z r f v) (ntR r) _ _ _ (by omega) (by omega) (ntR_le hr30) (ntX_m hZ0) (ntX_l.trans hZl) (ntX_c.trans hZc) (by rw [← hr, show L - i = (L - (i + 1)) + 1 by omega, rdC, if_neg (fun h => c46' h.2), if_neg (fun h => absurd h.2.1 (by omega)), if_pos ⟨c115, by omega⟩, if_pos c125]) rfl rfl rfl (by omega)
              · skip
                refine v_iload hC dX3_read_94 5 rfl ?_
                refine v_bne (b := s) (tgt := 111) hC dX3_read_96 (by decide) (fun c96 => ?_) (fun c96 => ?_)
                · skip
                  refine v_iload hC dX3_read_111 0 rfl ?_
                  refine v_bipush (v := 44) hC dX3_read_113 (by decide) ?_
                  refine v_icmp_ne (x := (xc X i)) (y := 44) (tgt := 147) hC dX3_read_115 (by decide) (fun c115 => ?_) (fun c115 => ?_)
                  · skip
                    refine v_iload hC dX3_read_147 6 rfl ?_
                    have e : rdX X L = (nI i, Z) := by rw [← hr, show L - i = (L - (i + 1)) + 1 by omega, rdC, if_neg (fun h => c46' h.2), if_neg (fun h => absurd (c96.symm.trans h.2.2) (by decide)), if_neg (fun h => c115 h.1)]
                    exact v_iretX hC hR e dX3_read_149
                  · skip
                    refine v_iload_n hC dX3_read_118 2 rfl ?_
                    refine v_zle (a := d) (tgt := 147) hC dX3_read_119 (by decide) rfl (by omega) (fun c119 => ?_) (fun c119 => ?_)
                    · skip
                      refine v_iload hC dX3_read_147 6 rfl ?_
                      have e : rdX X L = (nI i, Z) := by rw [← hr, show L - i = (L - (i + 1)) + 1 by omega, rdC, if_neg (fun h => c46' h.2), if_neg (fun h => absurd (c96.symm.trans h.2.2) (by decide)), if_neg (fun h => absurd h.2 (by omega))]
                      exact v_iretX hC hR e dX3_read_149
                    · skip
                      refine v_aload_n hC dX3_read_122 1 rfl ?_
                      refine v_iload hC dX3_read_123 5 rfl ?_
                      refine v_beq (b := s) (tgt := 132) hC dX3_read_125 (by decide) (fun c125 => ?_) (fun c125 => ?_)
                      · skip
                        refine v_iload_n hC dX3_read_132 4 rfl ?_
                        refine v_iload_n hC dX3_read_133 4 rfl ?_
                        refine v_callVv (C2 := CC Λ (ntX Z r v v) Y) (As := [.int v, .int v]) (rest := []) hC 2 200 (c_X3_noteRange Λ Z Y (u := v) (v := v) (r := r) hZ0 (by omega)) (nR_of (by decide)) (cc_200 Λ Z Y) rfl gX3_read_X3_noteRange rfl rfl rfl hd_X3_noteRange ⟨by decide, by decide⟩ rfl rfl (Nat.le_of_ble_eq_true rfl) dX3_read_134 ?_
                        refine v_iconst (v := 0) hC dX3_read_137 (by decide) ?_
                        refine v_istore (lv' := [(4, .int 0), (6, .int (xc X i)), (0, rf Λ 200), (1, .int (nI d)), (2, .int f), (3, .int v), (5, .int (nI i))]) hC dX3_read_138 (by decide) rfl ?_
                        refine v_iconst (v := 0) hC dX3_read_140 (by decide) ?_
                        refine v_istore_n (lv' := [(3, .int 0), (4, .int 0), (6, .int (xc X i)), (0, rf Λ 200), (1, .int (nI d)), (2, .int f), (5, .int (nI i))]) hC dX3_read_141 (by decide) rfl ?_
                        refine v_iconst (v := 0) hC dX3_read_142 (by decide) ?_
                        refine v_istore_n (lv' := [(1, .int 0), (3, .int 0), (4, .int 0), (6, .int (xc X i)), (0, rf Λ 200), (2, .int f), (5, .int (nI i))]) hC dX3_read_143 (by decide) rfl ?_
                        refine v_goto (tgt := 150) hC dX3_read_144 (by decide) ?_
                        refine v_iinc (j := 6) (v := nI (i + 1)) (lv' := [(5, .int (nI (i + 1))), (1, .int 0), (3, .int 0), (4, .int 0), (6, .int (xc X i)), (0, rf Λ 200), (2, .int f)]) hC dX3_read_150 rfl (nI_add i 1) (by decide) rfl ?_
                        refine v_goto (tgt := 17) hC dX3_read_153 (by decide) ?_
                        refine v_sub (lv' := [(0, rf Λ 200), (1, .int 0), (2, .int f), (3, .int 0), (4, .int 0), (5, .int (nI (i + 1)))]) [5, 1, 6, 2, 3, 0] rfl ?_
                        refine v_mem (C' := CC Λ (ntX Z r v v) Y) rfl ?_
                        exact ih17 (i + 1) 0 f 0 false (ntX Z r v v) (ntR r) _ _ _ (by omega) (by omega) (ntR_le hr30) (ntX_m hZ0) (ntX_l.trans hZl) (ntX_c.trans hZc) (by rw [← hr, show L - i = (L - (i + 1)) + 1 by omega, rdC, if_neg (fun h => c46' h.2), if_neg (fun h => absurd (c96.symm.trans h.2.2) (by decide)), if_pos ⟨c115, by omega⟩, if_neg (by rw [c125]; decide)]) rfl rfl rfl (by omega)
                      · skip
                        refine v_iload_n hC dX3_read_128 3 rfl ?_
                        refine v_goto (tgt := 133) hC dX3_read_129 (by decide) ?_
                        refine v_iload_n hC dX3_read_133 4 rfl ?_
                        refine v_callVv (C2 := CC Λ (ntX Z r f v) Y) (As := [.int f, .int v]) (rest := []) hC 2 200 (c_X3_noteRange Λ Z Y (u := f) (v := v) (r := r) hZ0 (by omega)) (nR_of (by decide)) (cc_200 Λ Z Y) rfl gX3_read_X3_noteRange rfl rfl rfl hd_X3_noteRange ⟨by decide, by decide⟩ rfl rfl (Nat.le_of_ble_eq_true rfl) dX3_read_134 ?_
                        refine v_iconst (v := 0) hC dX3_read_137 (by decide) ?_
                        refine v_istore (lv' := [(4, .int 0), (6, .int (xc X i)), (0, rf Λ 200), (1, .int (nI d)), (2, .int f), (3, .int v), (5, .int (nI i))]) hC dX3_read_138 (by decide) rfl ?_
                        refine v_iconst (v := 0) hC dX3_read_140 (by decide) ?_
                        refine v_istore_n (lv' := [(3, .int 0), (4, .int 0), (6, .int (xc X i)), (0, rf Λ 200), (1, .int (nI d)), (2, .int f), (5, .int (nI i))]) hC dX3_read_141 (by decide) rfl ?_
                        refine v_iconst (v := 0) hC dX3_read_142 (by decide) ?_
                        refine v_istore_n (lv' := [(1, .int 0), (3, .int 0), (4, .int 0), (6, .int (xc X i)), (0, rf Λ 200), (2, .int f), (5, .int (nI i))]) hC dX3_read_143 (by decide) rfl ?_
                        refine v_goto (tgt := 150) hC dX3_read_144 (by decide) ?_
                        refine v_iinc (j := 6) (v := nI (i + 1)) (lv' := [(5, .int (nI (i + 1))), (1, .int 0), (3, .int 0), (4, .int 0), (6, .int (xc X i)), (0, rf Λ 200), (2, .int f)]) hC dX3_read_150 rfl (nI_add i 1) (by decide) rfl ?_
                        refine v_goto (tgt := 17) hC dX3_read_153 (by decide) ?_
                        refine v_sub (lv' := [(0, rf Λ 200), (1, .int 0), (2, .int f), (3, .int 0), (4, .int 0), (5, .int (nI (i + 1)))]) [5, 1, 6, 2, 3, 0] rfl ?_
                        refine v_mem (C' := CC Λ (ntX Z r f v) Y) rfl ?_
                        exact ih17 (i + 1) 0 f 0 false (ntX Z r f v) (ntR r) _ _ _ (by omega) (by omega) (ntR_le hr30) (ntX_m hZ0) (ntX_l.trans hZl) (ntX_c.trans hZc) (by rw [← hr, show L - i = (L - (i + 1)) + 1 by omega, rdC, if_neg (fun h => c46' h.2), if_neg (fun h => absurd (c96.symm.trans h.2.2) (by decide)), if_pos ⟨c115, by omega⟩, if_pos c125]) rfl rfl rfl (by omega)
                · skip
                  refine v_iload_n hC dX3_read_99 4 rfl ?_
                  refine v_istore_n (lv' := [(2, .int v), (6, .int (xc X i)), (0, rf Λ 200), (1, .int (nI d)), (3, .int v), (4, .int (bI s)), (5, .int (nI i))]) hC dX3_read_100 (by decide) rfl ?_
                  refine v_iconst (v := 1) hC dX3_read_101 (by decide) ?_
                  refine v_istore (lv' := [(4, .int 1), (2, .int v), (6, .int (xc X i)), (0, rf Λ 200), (1, .int (nI d)), (3, .int v), (5, .int (nI i))]) hC dX3_read_102 (by decide) rfl ?_
                  refine v_iconst (v := 0) hC dX3_read_104 (by decide) ?_
                  refine v_istore_n (lv' := [(3, .int 0), (4, .int 1), (2, .int v), (6, .int (xc X i)), (0, rf Λ 200), (1, .int (nI d)), (5, .int (nI i))]) hC dX3_read_105 (by decide) rfl ?_
                  refine v_iconst (v := 0) hC dX3_read_106 (by decide) ?_
                  refine v_istore_n (lv' := [(1, .int 0), (3, .int 0), (4, .int 1), (2, .int v), (6, .int (xc X i)), (0, rf Λ 200), (5, .int (nI i))]) hC dX3_read_107 (by decide) rfl ?_
                  refine v_goto (tgt := 150) hC dX3_read_108 (by decide) ?_
                  refine v_iinc (j := 6) (v := nI (i + 1)) (lv' := [(5, .int (nI (i + 1))), (1, .int 0), (3, .int 0), (4, .int 1), (2, .int v), (6, .int (xc X i)), (0, rf Λ 200)]) hC dX3_read_150 rfl (nI_add i 1) (by decide) rfl ?_
                  refine v_goto (tgt := 17) hC dX3_read_153 (by decide) ?_
                  refine v_sub (lv' := [(0, rf Λ 200), (1, .int 0), (2, .int v), (3, .int 0), (4, .int 1), (5, .int (nI (i + 1)))]) [6, 1, 4, 2, 3, 0] rfl ?_
                  refine v_mem (C' := CC Λ Z Y) rfl ?_
                  exact ih17 (i + 1) 0 v 0 true Z r _ _ _ (by omega) (by omega) hr30 hZ0 hZl hZc (by rw [← hr, show L - i = (L - (i + 1)) + 1 by omega, rdC, if_neg (fun h => c46' h.2), if_pos ⟨c87, by omega, c96⟩]) rfl rfl rfl (by omega)
          · have c46' := Int32.not_lt.mp c46
            refine v_iload_n hC dX3_read_49 2 rfl ?_
            refine v_iconst (v := 4) hC dX3_read_50 (by decide) ?_
            refine v_neq (a := d) (b := 4) (tgt := 63) hC dX3_read_51 (by decide) rfl rfl (by omega) (by omega) (fun c51 => ?_) (fun c51 => ?_)
            · skip
              refine v_iload hC dX3_read_63 6 rfl ?_
              have e : rdX X L = (nI i, Z) := by rw [← hr, show L - i = (L - (i + 1)) + 1 by omega, rdC, if_pos ⟨c39', c46'⟩, if_pos (Or.inl c51)]
              exact v_iretX hC hR e dX3_read_65
            · skip
              refine v_iload_n hC dX3_read_54 2 rfl ?_
              refine v_iconst (v := 1) hC dX3_read_55 (by decide) ?_
              refine v_nne (a := d) (b := 1) (tgt := 66) hC dX3_read_56 (by decide) rfl rfl (by omega) (by omega) (fun c56 => ?_) (fun c56 => ?_)
              · skip
                refine v_bipush (v := 10) hC dX3_read_66 (by decide) ?_
                refine v_iload_n hC dX3_read_68 4 rfl ?_
                refine v_imul (x := 10) (y := v) hC dX3_read_69 ?_
                refine v_iload hC dX3_read_70 0 rfl ?_
                refine v_bipush (v := 48) hC dX3_read_72 (by decide) ?_
                refine v_isub (x := (xc X i)) (y := 48) hC dX3_read_74 ?_
                refine v_iadd (x := 10 * v) (y := (xc X i) - 48) hC dX3_read_75 ?_
                refine v_istore_n (lv' := [(3, .int ((10 * v) + ((xc X i) - 48))), (6, .int (xc X i)), (0, rf Λ 200), (1, .int (nI d)), (2, .int f), (4, .int (bI s)), (5, .int (nI i))]) hC dX3_read_76 (by decide) rfl ?_
                refine v_iinc (j := 3) (v := nI (d + 1)) (lv' := [(1, .int (nI (d + 1))), (3, .int ((10 * v) + ((xc X i) - 48))), (6, .int (xc X i)), (0, rf Λ 200), (2, .int f), (4, .int (bI s)), (5, .int (nI i))]) hC dX3_read_77 rfl (nI_add d 1) (by decide) rfl ?_
                refine v_goto (tgt := 150) hC dX3_read_80 (by decide) ?_
                refine v_iinc (j := 6) (v := nI (i + 1)) (lv' := [(5, .int (nI (i + 1))), (1, .int (nI (d + 1))), (3, .int ((10 * v) + ((xc X i) - 48))), (6, .int (xc X i)), (0, rf Λ 200), (2, .int f), (4, .int (bI s))]) hC dX3_read_150 rfl (nI_add i 1) (by decide) rfl ?_
                refine v_goto (tgt := 17) hC dX3_read_153 (by decide) ?_
                refine v_sub (lv' := [(0, rf Λ 200), (1, .int (nI (d + 1))), (2, .int f), (3, .int ((10 * v) + ((xc X i) - 48))), (4, .int (bI s)), (5, .int (nI (i + 1)))]) [4, 1, 5, 2, 6, 0] rfl ?_
                refine v_mem (C' := CC Λ Z Y) rfl ?_
                exact ih17 (i + 1) (d + 1) f (10 * v + (xc X i - 48)) s Z r _ _ _ (by omega) (by omega) hr30 hZ0 hZl hZc (by rw [← hr, show L - i = (L - (i + 1)) + 1 by omega, rdC, if_pos ⟨c39', c46'⟩, if_neg (fun h => h.elim c51 (fun g => c56 g.1))]) rfl rfl rfl (by omega)
              · skip
                refine v_iload_n hC dX3_read_59 4 rfl ?_
                refine v_if_ne (tgt := 66) hC dX3_read_60 (by decide) (fun c60 => ?_) (fun c60 => ?_)
                · skip
                  refine v_bipush (v := 10) hC dX3_read_66 (by decide) ?_
                  refine v_iload_n hC dX3_read_68 4 rfl ?_
                  refine v_imul (x := 10) (y := v) hC dX3_read_69 ?_
                  refine v_iload hC dX3_read_70 0 rfl ?_
                  refine v_bipush (v := 48) hC dX3_read_72 (by decide) ?_
                  refine v_isub (x := (xc X i)) (y := 48) hC dX3_read_74 ?_
                  refine v_iadd (x := 10 * v) (y := (xc X i) - 48) hC dX3_read_75 ?_
                  refine v_istore_n (lv' := [(3, .int ((10 * v) + ((xc X i) - 48))), (6, .int (xc X i)), (0, rf Λ 200), (1, .int (nI d)), (2, .int f), (4, .int (bI s)), (5, .int (nI i))]) hC dX3_read_76 (by decide) rfl ?_
                  refine v_iinc (j := 3) (v := nI (d + 1)) (lv' := [(1, .int (nI (d + 1))), (3, .int ((10 * v) + ((xc X i) - 48))), (6, .int (xc X i)), (0, rf Λ 200), (2, .int f), (4, .int (bI s)), (5, .int (nI i))]) hC dX3_read_77 rfl (nI_add d 1) (by decide) rfl ?_
                  refine v_goto (tgt := 150) hC dX3_read_80 (by decide) ?_
                  refine v_iinc (j := 6) (v := nI (i + 1)) (lv' := [(5, .int (nI (i + 1))), (1, .int (nI (d + 1))), (3, .int ((10 * v) + ((xc X i) - 48))), (6, .int (xc X i)), (0, rf Λ 200), (2, .int f), (4, .int (bI s))]) hC dX3_read_150 rfl (nI_add i 1) (by decide) rfl ?_
                  refine v_goto (tgt := 17) hC dX3_read_153 (by decide) ?_
                  refine v_sub (lv' := [(0, rf Λ 200), (1, .int (nI (d + 1))), (2, .int f), (3, .int ((10 * v) + ((xc X i) - 48))), (4, .int (bI s)), (5, .int (nI (i + 1)))]) [4, 1, 5, 2, 6, 0] rfl ?_
                  refine v_mem (C' := CC Λ Z Y) rfl ?_
                  exact ih17 (i + 1) (d + 1) f (10 * v + (xc X i - 48)) s Z r _ _ _ (by omega) (by omega) hr30 hZ0 hZl hZc (by rw [← hr, show L - i = (L - (i + 1)) + 1 by omega, rdC, if_pos ⟨c39', c46'⟩, if_neg (fun h => h.elim c51 (fun g => c60 g.2))]) rfl rfl rfl (by omega)
                · skip
                  refine v_iload hC dX3_read_63 6 rfl ?_
                  have e : rdX X L = (nI i, Z) := by rw [← hr, show L - i = (L - (i + 1)) + 1 by omega, rdC, if_pos ⟨c39', c46'⟩, if_pos (Or.inr ⟨c56, c60⟩)]
                  exact v_iretX hC hR e dX3_read_65
  refine v_sub (lv' := [(0, rf Λ 200), (1, .int 0), (2, .int 0), (3, .int 0), (4, .int 0), (5, .int 0)]) [5, 4, 3, 2, 1, 0] rfl ?_
  refine v_mem (C' := CC Λ (xmS X 0) Y) rfl ?_
  exact L17 _ 0 0 0 0 false (xmS X 0) 0 _ _ _ (by omega) (by omega) (by omega) rfl hl0 rfl rfl rfl rfl rfl (Nat.lt_succ_self _)
