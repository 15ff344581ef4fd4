/-! The law's walk -/
theorem dock_T {X : XS} {g : YS} {m t k : Nat} (h : Inv X g m t) (hk : k < m) : ∃ f, dockX X t m (nI k) = ((ehF 8 (faS (X.1 k) false) 0 0).2, xFi (pushX X t m) k f) ∧ Gd f ∧ fp f + fd f = fp (X.1 k) + fd (X.1 k) ∧ fp f = fp (X.1 k) - (ehF 8 (faS (X.1 k) false) 0 0).2 ∧ ∀ b, b < 8 → Np f b := by
  have hm := h.1.2
  have hg := (h.2.1 k hk).1
  obtain ⟨p, p1, p2⟩ := hg.2.2.1
  obtain ⟨q, q1, q2, q3, q4, q5, q6⟩ := dk_ok hg p2 p1
  refine ⟨(ehF 8 (faS (X.1 k) false) 0 0).1, ?_, q4, q5.2.2.2.2, ?_, q6⟩
  · unfold dockX
    rw [if_neg (ne_TF (isC_nI hk hm)), ix_nI (by omega), push_f h.2.2.1.2.2.1 hm (by omega)]
  · rw [q2, q3, p2, pk_sub q1]
theorem cpH_00 (X : XS) (i : Nat) : (cpH X 0 1 0 0).1 i = X.1 i := by
  show (if 6 * 0 ≤ i ∧ i < 6 * 0 + 0 then cpF (X.1 (6 * 1 + (i - 6 * 0))) (X.1 i) else X.1 i) = _
  rw [if_neg (by omega)]
/-- back to the snapshot, which has no set -/
theorem rest_T {X : XS} {g : YS} {m t : Nat} (h : Inv X g m t) : rsX X t m 0 true = (nI 0, cpH (pushX X t m) 0 1 0 0) := by
  unfold rsX
  rw [if_neg (by decide)]
theorem rest_i {X : XS} {g : YS} {m t : Nat} (h : Inv X g m t) : Inv (cpH (pushX X t m) 0 1 0 0) g 0 (phZ t) ∧ Bk (cpH (pushX X t m) 0 1 0 0) X m (phZ t) := by
  have hp := inv_push h
  have hb := push_bk (X := X) (t := t) (m := m)
  refine ⟨⟨⟨cpH_h, by omega⟩, fun s hs => absurd hs (Nat.not_lt_zero _), hp.2.2.1, fun k hk => ?_, ⟨hp.2.2.2.2.1, hp.2.2.2.2.2.1, ?_⟩⟩, ⟨?_, fun s hs => ?_⟩⟩
  · by_cases e : k = 0
    · subst e
      exact ⟨0, by omega, cpH_h⟩
    · rw [cpH_hne e]
      exact hp.2.2.2.1 k hk
  · rw [cpH_hne (by omega)]
    exact hp.2.2.2.2.2.2
  · show xh (cpH (pushX X t m) 0 1 0 0) (2 + xq (pushX X t m) (phZ t - 1)) = nI m
    rw [cpH_hne (by omega)]
    exact hb.1
  · show Feq _ ((cpH (pushX X t m) 0 1 0 0).1 (6 * (2 + xq (pushX X t m) (phZ t - 1)) + s))
    rw [cpH_00]
    exact hb.2 s hs
/-- the state behind keep() -/
def x1S : XS := (kpX x0S 0).2
theorem inv_1 : Inv x1S y0S 0 0 := by
  refine ⟨⟨rfl, by omega⟩, fun s hs => absurd hs (Nat.not_lt_zero _), ⟨rfl, by omega, ⟨fun j => Nat.mod_lt _ (by decide), fun i j hi hj e => ?_⟩⟩, fun k hk => ⟨0, by omega, ?_⟩, ⟨rfl, rfl, rfl⟩⟩
  · have e2 : i % 4 = j % 4 := e
    omega
  · show va_up (fun _ => 0) 1 (nI 0) k = nI 0
    unfold va_up
    split <;> rfl
theorem e_most0 : mhO (hF x0S 0) 0 32 0 (-5) 0 = -5 := (most_T x0S 0).mpr (sm_zero 2048)
theorem e_all0 : allC x0S 0 0 = -5 := by
  have h := all_end (X := x0S) (m := 0) (by decide)
  rw [show tA x0S 0 = 0 from sm_zero 2048] at h
  exact h
section LLAW
variable {Λ : Lk} {κ : Kx} {b L : Nat} {xs : Nat → Int32}
set_option maxHeartbeats 1000000 in
set_option maxRecDepth 100000 in
theorem lg_e (hC : Ok Λ room_1 cL_law wsL_law RL 8 κ) (hS : Scr Λ b L xs κ) (hL : L < 2 ^ 31) (hend : ∀ (C : Mem) (lv : Lvs), V Λ κ C 422 lv [.int 1]) {X : XS} {Y : YS} {m t : Nat} (h : Inv X Y m t) (h1 : 0 < m) : V Λ κ (CC Λ X Y) 356 [(2, rf Λ 204), (1, rf Λ 197), (0, .ref b)] [] := by
  have hm0 := h.1.1
  have hm := h.1.2
  have hp0 := h.2.2.1.1
  have ht4 := h.2.2.1.2.1
  have hq := h.2.2.1.2.2.1
  have hl0 := h.2.2.2.2.1
  obtain ⟨i3, hb⟩ := rest_i h
  have ph1 := phZ_1 t
  obtain ⟨i4, hv⟩ := undo_ok (g2 := Y) i3 hb hm h.2.1
  have jm0 := i3.1.1
  have jm := i3.1.2
  have jp0 := i3.2.2.1.1
  have jt4 := i3.2.2.1.2.1
  have jq := i3.2.2.1.2.2.1
  have jl0 := i3.2.2.2.2.1
  have km0 := i4.1.1
  have km := i4.1.2
  have kp0 := i4.2.2.1.1
  have kt4 := i4.2.2.1.2.1
  have kq := i4.2.2.1.2.2.1
  have kl0 := i4.2.2.2.2.1
  refine v_aload_n hC dL_law_356 1 rfl ?_
  refine v_callSr (v := .long (markX X m t 0)) (C2 := CC Λ X Y) (As := [rf Λ 197]) (rest := []) hC 1 (c_L_mark Λ X Y hm0 hm hp0 ht4 hl0) gL_law_L_mark rfl rfl rfl hd_L_mark ⟨by decide, by decide⟩ rfl rfl (Nat.le_of_ble_eq_true rfl) dL_law_357 ?_
  refine v_lstore (lv' := [(4, .long (markX X m t 0)), (2, rf Λ 204), (1, rf Λ 197), (0, .ref b)]) hC dL_law_360 (by decide) rfl ?_
  refine v_aload_n hC dL_law_362 2 rfl ?_
  refine v_aload_n hC dL_law_363 1 rfl ?_
  refine v_aload_n (x := b) hC dL_law_364 3 rfl ?_
  refine v_bipush (v := 38) hC dL_law_365 (by decide) ?_
  refine v_topi (y := nI 38) rfl ?_
  refine v_callSc (v := .int (cellF L xs 38)) (C2 := CC Λ X Y) (As := [.ref b, .int (nI 38)]) (rest := [rf Λ 204, rf Λ 197]) hC hS 2 (c_L_cell Λ X Y (k := 38) hL (by decide)) gL_law_L_cell rfl rfl rfl hd_L_cell ⟨by decide, by decide⟩ rfl rfl (Nat.le_of_ble_eq_true rfl) dL_law_367 ?_
  refine v_callSr (v := .int 1) (C2 := CC Λ X Y) (As := [rf Λ 197, rf Λ 204, .int (cellF L xs 38)]) (rest := []) hC 3 (c_L_sound Λ X Y (z := cellF L xs 38) h h1) gL_law_L_sound rfl rfl rfl hd_L_sound ⟨by decide, by decide⟩ rfl rfl (Nat.le_of_ble_eq_true rfl) dL_law_370 ?_
  refine v_if_eq (tgt := 421) hC dL_law_373 (by decide) (fun zz => absurd zz (show ¬ (1 : Int32) = 0 by decide)) (fun _ => ?_)
  refine v_aload_n hC dL_law_376 2 rfl ?_
  refine v_callVr (v := .int (nI 0)) (C2 := CC Λ (cpH (pushX X t m) 0 1 0 0) Y) (As := []) (rest := []) hC 0 197 (con_E (c_X4_restore Λ X Y (u := 0) (sn := true) hm0 hm hp0 ht4 hq h.2.2.2.2.2.1 h.2.2.2.2.2.2 (by decide)) (rest_T h)) (nR_of (by decide)) (cc_197 Λ X Y) rfl gL_law_X4_restore rfl rfl rfl hd_X4_restore ⟨by decide, by decide⟩ rfl rfl (Nat.le_of_ble_eq_true rfl) dL_law_377 ?_
  refine v_if_ne (tgt := 421) hC dL_law_380 (by decide) (fun zz => absurd rfl zz) (fun _ => ?_)
  refine v_aload_n hC dL_law_383 2 rfl ?_
  refine v_iconst (v := 0) hC dL_law_384 (by decide) ?_
  refine v_callVr (v := .int (cntC (cpH (pushX X t m) 0 1 0 0) 0 (phZ t) 0 0)) (C2 := CC Λ (cpH (pushX X t m) 0 1 0 0) Y) (As := [.int 0]) (rest := []) hC 1 197 (c_X4_count Λ (cpH (pushX X t m) 0 1 0 0) Y (v := 0) jm0 jm jp0 jt4 jl0 (Nat.zero_le _)) (nR_of (by decide)) (cc_197 Λ (cpH (pushX X t m) 0 1 0 0) Y) rfl gL_law_X4_count rfl rfl rfl hd_X4_count ⟨by decide, by decide⟩ rfl rfl (Nat.le_of_ble_eq_true rfl) dL_law_385 ?_
  refine v_topi (y := nI 0) (ct_0 _ 0 (phZ t) 0) ?_
  refine v_if_ne (tgt := 421) hC dL_law_388 (by decide) (fun zz => absurd rfl zz) (fun _ => ?_)
  refine v_aload_n hC dL_law_391 2 rfl ?_
  refine v_bipush (v := 8) hC dL_law_392 (by decide) ?_
  refine v_callVr (v := .int (cntC (cpH (pushX X t m) 0 1 0 0) 0 (phZ t) 0 8)) (C2 := CC Λ (cpH (pushX X t m) 0 1 0 0) Y) (As := [.int 8]) (rest := []) hC 1 197 (c_X4_count Λ (cpH (pushX X t m) 0 1 0 0) Y (v := 8) jm0 jm jp0 jt4 jl0 (Nat.zero_le _)) (nR_of (by decide)) (cc_197 Λ (cpH (pushX X t m) 0 1 0 0) Y) rfl gL_law_X4_count rfl rfl rfl hd_X4_count ⟨by decide, by decide⟩ rfl rfl (Nat.le_of_ble_eq_true rfl) dL_law_394 ?_
  refine v_topi (y := 0) (ct_8 _ 0 (phZ t) 0) ?_
  refine v_if_ne (tgt := 421) hC dL_law_397 (by decide) (fun zz => absurd rfl zz) (fun _ => ?_)
  refine v_aload_n hC dL_law_400 2 rfl ?_
  refine v_callVr (v := .int (nI (phZ t - 1))) (C2 := CC Λ (popX (cpH (pushX X t m) 0 1 0 0) (phZ t) m) Y) (As := []) (rest := []) hC 0 197 (con_E (c_X4_undo Λ (cpH (pushX X t m) 0 1 0 0) Y jp0 jt4 jq hb.1 hm) (und_T (by omega))) (nR_of (by decide)) (cc_197 Λ (cpH (pushX X t m) 0 1 0 0) Y) rfl gL_law_X4_undo rfl rfl rfl hd_X4_undo ⟨by decide, by decide⟩ rfl rfl (Nat.le_of_ble_eq_true rfl) dL_law_401 ?_
  refine v_if_lt (tgt := 421) hC dL_law_404 (by decide) (fun zz => absurd zz (nI_pos (by have := phZ_4 t; omega))) (fun _ => ?_)
  refine v_aload_n hC dL_law_407 2 rfl ?_
  refine v_callSr (v := .long (markX (popX (cpH (pushX X t m) 0 1 0 0) (phZ t) m) m (phZ t - 1) 0)) (C2 := CC Λ (popX (cpH (pushX X t m) 0 1 0 0) (phZ t) m) Y) (As := [rf Λ 197]) (rest := []) hC 1 (c_L_mark Λ (popX (cpH (pushX X t m) 0 1 0 0) (phZ t) m) Y km0 km kp0 kt4 kl0) gL_law_L_mark rfl rfl rfl hd_L_mark ⟨by decide, by decide⟩ rfl rfl (Nat.le_of_ble_eq_true rfl) dL_law_408 ?_
  refine v_topl (y := markX X m t 0) (mark_vw hv hm) ?_
  refine v_lload hC dL_law_411 0 rfl ?_
  refine v_lcmp hC dL_law_413 ?_
  refine v_topi (y := 0) (lgc_self _) ?_
  refine v_if_ne (tgt := 421) hC dL_law_414 (by decide) (fun zz => absurd rfl zz) (fun _ => ?_)
  refine v_iconst (v := 1) hC dL_law_417 (by decide) ?_
  refine v_goto (tgt := 422) hC dL_law_418 (by decide) ?_
  exact hend _ _
set_option maxHeartbeats 1000000 in
set_option maxRecDepth 100000 in
theorem lg_d (hC : Ok Λ room_1 cL_law wsL_law RL 8 κ) (hS : Scr Λ b L xs κ) (hL : L < 2 ^ 31) (hend : ∀ (C : Mem) (lv : Lvs), V Λ κ C 422 lv [.int 1]) {X : XS} {Y : YS} {m t : Nat} (h : Inv X Y m t) (h1 : 0 < m) : V Λ κ (CC Λ X Y) 203 [(2, rf Λ 204), (1, rf Λ 197), (0, .ref b)] [] := by
  have LL : ∀ (fu k : Nat) (X : XS) (t : Nat), Inv X Y m t → k ≤ m → m - k < fu → V Λ κ (CC Λ X Y) 206 [(4, .int (nI k)), (2, rf Λ 204), (1, rf Λ 197), (0, .ref b)] [] := by
    intro fu
    induction fu with
    | zero => intro k X t h hk hfu; exact absurd hfu (Nat.not_lt_zero _)
    | succ fu ih =>
      intro k X t h hk hfu
      have hm0 := h.1.1
      have hm := h.1.2
      have hp0 := h.2.2.1.1
      have ht4 := h.2.2.1.2.1
      have hq := h.2.2.1.2.2.1
      have hl0 := h.2.2.2.2.1
      refine v_iload hC dL_law_206 0 rfl ?_
      refine v_aload_n hC dL_law_208 2 rfl ?_
      refine v_iconst (v := 0) hC dL_law_209 (by decide) ?_
      refine v_callVr (v := .int (cntC X m t 0 0)) (C2 := CC Λ X Y) (As := [.int 0]) (rest := [.int (nI k)]) hC 1 197 (c_X4_count Λ X Y (v := 0) hm0 hm hp0 ht4 hl0 (Nat.zero_le _)) (nR_of (by decide)) (cc_197 Λ X Y) rfl gL_law_X4_count rfl rfl rfl hd_X4_count ⟨by decide, by decide⟩ rfl rfl (Nat.le_of_ble_eq_true rfl) dL_law_210 ?_
      refine v_topi (y := nI m) (ct_0 X m t 0) ?_
      refine v_icmp_ge (tgt := 356) hC dL_law_213 (by decide) (fun c213 => ?_) (fun c213 => ?_)
      · refine v_sub (lv' := [(2, rf Λ 204), (1, rf Λ 197), (0, .ref b)]) [1, 2, 3] rfl ?_
        exact lg_e hC hS hL hend h h1
      · have g213 : k < m := Nat.lt_of_not_le (fun zz => c213 ((nI_leI (a := m) (b := k) (by omega) (by omega)).mpr zz))
        obtain ⟨f6, hf6⟩ : ∃ f6, f6 = (ehF 8 (faS (cpF (X.1 k) (X.1 36)) false) 0 0).1 := ⟨_, rfl⟩
        have ht : tollX X m (nI k) = ((ehF 8 (faS (X.1 k) false) 0 0).2, (xFi X 36 f6)) := by rw [hf6]; exact toll_T g213 hm
        have i1 := inv_try h f6
        have e36 : (xFi X 36 f6).1 k = X.1 k := xFi_ne X f6 (by omega)
        obtain ⟨f, f1, f2, f3, f4, f5⟩ := dock_T i1 g213
        rw [e36] at f1 f3 f4
        have i2 : Inv (xFi (pushX (xFi X 36 f6) t m) k f) Y m (phZ t) := inv_set (inv_push i1) g213 f2 ((i1.2.1 k g213).2.trans (by rw [e36, f3])) (fun _ _ _ => rfl)
        have ef : (xFi (pushX (xFi X 36 f6) t m) k f).1 k = f := xFi_at _ _ _
        obtain ⟨tl, htl⟩ : ∃ tl, (ehF 8 (faS (X.1 k) false) 0 0).2 = tl := ⟨_, rfl⟩
        rw [htl] at ht f1 f4
        have jm0 := i2.1.1
        have jm := i2.1.2
        have jp0 := i2.2.2.1.1
        have jt4 := i2.2.2.1.2.1
        have jq := i2.2.2.1.2.2.1
        have jl0 := i2.2.2.2.2.1
        refine v_aload_n hC dL_law_216 2 rfl ?_
        refine v_iload hC dL_law_217 0 rfl ?_
        refine v_callVr (v := .int tl) (C2 := CC Λ (xFi X 36 f6) Y) (As := [.int (nI k)]) (rest := []) hC 1 197 (con_E (c_X4_tollToDock Λ X Y (s := nI k) hm0 hm) ht) (nR_of (by decide)) (cc_197 Λ X Y) rfl gL_law_X4_tollToDock rfl rfl rfl hd_X4_tollToDock ⟨by decide, by decide⟩ rfl rfl (Nat.le_of_ble_eq_true rfl) dL_law_219 ?_
        refine v_istore (lv' := [(5, .int tl), (4, .int (nI k)), (2, rf Λ 204), (1, rf Λ 197), (0, .ref b)]) hC dL_law_222 (by decide) rfl ?_
        refine v_aload_n hC dL_law_224 3 rfl ?_
        refine v_iload hC dL_law_225 1 rfl ?_
        refine v_iconst (v := 3) hC dL_law_227 (by decide) ?_
        refine v_callVr (v := .int (setC (xFi X 36 f6) m (nI k) 3)) (C2 := CC Λ (xFi X 36 f6) Y) (As := [.int (nI k), .int 3]) (rest := []) hC 2 197 (c_X4_set Λ (xFi X 36 f6) Y (s := nI k) (v := 3) hm0 hm) (nR_of (by decide)) (cc_197 Λ (xFi X 36 f6) Y) rfl gL_law_X4_set rfl rfl rfl hd_X4_set ⟨by decide, by decide⟩ rfl rfl (Nat.le_of_ble_eq_true rfl) dL_law_228 ?_
        refine v_topi (y := fp (X.1 k)) (by rw [set_T g213 hm, e36]; exact se_3 _) ?_
        refine v_istore (lv' := [(6, .int (fp (X.1 k))), (5, .int tl), (4, .int (nI k)), (2, rf Λ 204), (1, rf Λ 197), (0, .ref b)]) hC dL_law_231 (by decide) rfl ?_
        refine v_aload_n hC dL_law_233 4 rfl ?_
        refine v_iload hC dL_law_234 2 rfl ?_
        refine v_callVr (v := .int tl) (C2 := CC Λ (xFi (pushX (xFi X 36 f6) t m) k f) Y) (As := [.int (nI k)]) (rest := []) hC 1 197 (con_E (c_X4_dock Λ (xFi X 36 f6) Y (s := nI k) hm0 hm hp0 ht4 hq) f1) (nR_of (by decide)) (cc_197 Λ (xFi X 36 f6) Y) rfl gL_law_X4_dock rfl rfl rfl hd_X4_dock ⟨by decide, by decide⟩ rfl rfl (Nat.le_of_ble_eq_true rfl) dL_law_236 ?_
        refine v_iload hC dL_law_239 1 rfl ?_
        refine v_icmp_ne (tgt := 259) hC dL_law_241 (by decide) (fun zz => absurd rfl zz) (fun _ => ?_)
        refine v_aload_n hC dL_law_244 4 rfl ?_
        refine v_iload hC dL_law_245 2 rfl ?_
        refine v_iconst (v := 3) hC dL_law_247 (by decide) ?_
        refine v_callVr (v := .int (setC (xFi (pushX (xFi X 36 f6) t m) k f) m (nI k) 3)) (C2 := CC Λ (xFi (pushX (xFi X 36 f6) t m) k f) Y) (As := [.int (nI k), .int 3]) (rest := []) hC 2 197 (c_X4_set Λ (xFi (pushX (xFi X 36 f6) t m) k f) Y (s := nI k) (v := 3) jm0 jm) (nR_of (by decide)) (cc_197 Λ (xFi (pushX (xFi X 36 f6) t m) k f) Y) rfl gL_law_X4_set rfl rfl rfl hd_X4_set ⟨by decide, by decide⟩ rfl rfl (Nat.le_of_ble_eq_true rfl) dL_law_248 ?_
        refine v_topi (y := fp f) (by rw [set_T g213 jm, ef]; exact se_3 _) ?_
        refine v_iload hC dL_law_251 0 rfl ?_
        refine v_iload hC dL_law_253 1 rfl ?_
        refine v_isub (x := fp (X.1 k)) (y := tl) hC dL_law_255 ?_
        refine v_icmp_eq (tgt := 261) hC dL_law_256 (by decide) (fun _ => ?_) (fun zz => absurd f4 zz)
        refine v_iconst (v := 0) hC dL_law_261 (by decide) ?_
        refine v_istore (lv' := [(7, .int 0), (6, .int (fp (X.1 k))), (5, .int tl), (4, .int (nI k)), (2, rf Λ 204), (1, rf Λ 197), (0, .ref b)]) hC dL_law_262 (by decide) rfl ?_
        have L264 : ∀ (fu264 : Nat) (q : Nat), q ≤ 8 → 8 - q < fu264 → V Λ κ (CC Λ (xFi (pushX (xFi X 36 f6) t m) k f) Y) 264 [(7, .int (nI q)), (4, .int (nI k)), (2, rf Λ 204), (1, rf Λ 197), (0, .ref b)] [] := by
          intro fu264
          induction fu264 with
          | zero => intro q hq8 hfu264; exact absurd hfu264 (Nat.not_lt_zero _)
          | succ fu264 ih264 =>
            intro q hq8 hfu264
            refine v_iload hC dL_law_264 0 rfl ?_
            refine v_bipush (v := 8) hC dL_law_266 (by decide) ?_
            refine v_icmp_ge (tgt := 350) hC dL_law_268 (by decide) (fun c268 => ?_) (fun c268 => ?_)
            · have g268 : 8 ≤ q := (nI_leI (a := 8) (b := q) (by decide) (by omega)).mp c268
              have ee : 8 = q := by omega
              subst ee
              refine v_iinc (j := 1) (v := nI (k + 1)) (lv' := [(4, .int (nI (k + 1))), (7, .int (nI 8)), (2, rf Λ 204), (1, rf Λ 197), (0, .ref b)]) hC dL_law_350 rfl (nI_add k 1) (by decide) rfl ?_
              refine v_goto (tgt := 206) hC dL_law_353 (by decide) ?_
              refine v_sub (lv' := [(4, .int (nI (k + 1))), (2, rf Λ 204), (1, rf Λ 197), (0, .ref b)]) [0, 2, 3, 4] rfl ?_
              exact ih (k + 1) (xFi (pushX (xFi X 36 f6) t m) k f) (phZ t) i2 (by omega) (by omega)
            · have g268 : q < 8 := Nat.lt_of_not_le (fun z => c268 ((nI_leI (a := 8) (b := q) (by decide) (by omega)).mpr z))
              by_cases hc : cm (fw f) q = 0
              · have bz : ∀ v : Int32, ¬ v < 0 → ¬ 5 < v → boatC (xFi (pushX (xFi X 36 f6) t m) k f) m (nI k) (nI q) v = -5 := fun v a c => (boat_E g213 jm g268 a c).trans (if_pos (by rw [ef]; exact fs_z f2 g268 hc))
                have p5 : (-5 : Int32) ≤ fp f := by obtain ⟨p, p1, p2⟩ := f2.2.2.1; rw [p2]; exact Int32.le_trans (show (-5 : Int32) ≤ 0 by decide) (nI_pos' (by omega))
                refine v_aload_n hC dL_law_271 3 rfl ?_
                refine v_iload hC dL_law_272 1 rfl ?_
                refine v_iload hC dL_law_274 0 rfl ?_
                refine v_iconst (v := 5) hC dL_law_276 (by decide) ?_
                refine v_callVr (v := .int (boatC (xFi (pushX (xFi X 36 f6) t m) k f) m (nI k) (nI q) 5)) (C2 := CC Λ (xFi (pushX (xFi X 36 f6) t m) k f) Y) (As := [.int (nI k), .int (nI q), .int 5]) (rest := []) hC 3 197 (c_X4_boat Λ (xFi (pushX (xFi X 36 f6) t m) k f) Y (s := nI k) (b := nI q) (v := 5) jm0 jm) (nR_of (by decide)) (cc_197 Λ (xFi (pushX (xFi X 36 f6) t m) k f) Y) rfl gL_law_X4_boat rfl rfl rfl hd_X4_boat ⟨by decide, by decide⟩ rfl rfl (Nat.le_of_ble_eq_true rfl) dL_law_277 ?_
                refine v_topi (y := (-5)) (bz _ (by decide) (by decide)) ?_
                refine v_aload_n hC dL_law_280 3 rfl ?_
                refine v_iload hC dL_law_281 1 rfl ?_
                refine v_iconst (v := 3) hC dL_law_283 (by decide) ?_
                refine v_callVr (v := .int (setC (xFi (pushX (xFi X 36 f6) t m) k f) m (nI k) 3)) (C2 := CC Λ (xFi (pushX (xFi X 36 f6) t m) k f) Y) (As := [.int (nI k), .int 3]) (rest := [.int (-5)]) hC 2 197 (c_X4_set Λ (xFi (pushX (xFi X 36 f6) t m) k f) Y (s := nI k) (v := 3) jm0 jm) (nR_of (by decide)) (cc_197 Λ (xFi (pushX (xFi X 36 f6) t m) k f) Y) rfl gL_law_X4_set rfl rfl rfl hd_X4_set ⟨by decide, by decide⟩ rfl rfl (Nat.le_of_ble_eq_true rfl) dL_law_284 ?_
                refine v_topi (y := fp f) (by rw [set_T g213 jm, ef]; exact se_3 _) ?_
                refine v_icmp_le (tgt := 311) hC dL_law_287 (by decide) (fun _ => ?_) (fun zz => absurd p5 zz)
                refine v_aload_n hC dL_law_311 3 rfl ?_
                refine v_iload hC dL_law_312 1 rfl ?_
                refine v_iload hC dL_law_314 0 rfl ?_
                refine v_iconst (v := 5) hC dL_law_316 (by decide) ?_
                refine v_callVr (v := .int (boatC (xFi (pushX (xFi X 36 f6) t m) k f) m (nI k) (nI q) 5)) (C2 := CC Λ (xFi (pushX (xFi X 36 f6) t m) k f) Y) (As := [.int (nI k), .int (nI q), .int 5]) (rest := []) hC 3 197 (c_X4_boat Λ (xFi (pushX (xFi X 36 f6) t m) k f) Y (s := nI k) (b := nI q) (v := 5) jm0 jm) (nR_of (by decide)) (cc_197 Λ (xFi (pushX (xFi X 36 f6) t m) k f) Y) rfl gL_law_X4_boat rfl rfl rfl hd_X4_boat ⟨by decide, by decide⟩ rfl rfl (Nat.le_of_ble_eq_true rfl) dL_law_317 ?_
                refine v_topi (y := (-5)) (bz _ (by decide) (by decide)) ?_
                refine v_if_le (tgt := 344) hC dL_law_320 (by decide) (fun _ => ?_) (fun zz => absurd (show (-5 : Int32) ≤ 0 by decide) zz)
                refine v_iinc (j := 0) (v := nI (q + 1)) (lv' := [(7, .int (nI (q + 1))), (4, .int (nI k)), (2, rf Λ 204), (1, rf Λ 197), (0, .ref b)]) hC dL_law_344 rfl (nI_add q 1) (by decide) rfl ?_
                refine v_goto (tgt := 264) hC dL_law_347 (by decide) ?_
                refine v_sub (lv' := [(7, .int (nI (q + 1))), (4, .int (nI k)), (2, rf Λ 204), (1, rf Λ 197), (0, .ref b)]) [0, 1, 2, 3, 4] rfl ?_
                exact ih264 (q + 1) (by omega) (by omega)
              · have bn : ∀ v : Int32, ¬ v < 0 → ¬ 5 < v → boatC (xFi (pushX (xFi X 36 f6) t m) k f) m (nI k) (nI q) v = boatF f q v := fun v a c => (boat_E g213 jm g268 a c).trans (by rw [ef]; exact if_neg (fun zz => hc ((fs_0 f2.1 g268).mp zz)))
                obtain ⟨p, p1, p2⟩ := f2.2.2.1
                by_cases hb : bestC f q = fk f q
                · refine v_aload_n hC dL_law_271 3 rfl ?_
                  refine v_iload hC dL_law_272 1 rfl ?_
                  refine v_iload hC dL_law_274 0 rfl ?_
                  refine v_iconst (v := 5) hC dL_law_276 (by decide) ?_
                  refine v_callVr (v := .int (boatC (xFi (pushX (xFi X 36 f6) t m) k f) m (nI k) (nI q) 5)) (C2 := CC Λ (xFi (pushX (xFi X 36 f6) t m) k f) Y) (As := [.int (nI k), .int (nI q), .int 5]) (rest := []) hC 3 197 (c_X4_boat Λ (xFi (pushX (xFi X 36 f6) t m) k f) Y (s := nI k) (b := nI q) (v := 5) jm0 jm) (nR_of (by decide)) (cc_197 Λ (xFi (pushX (xFi X 36 f6) t m) k f) Y) rfl gL_law_X4_boat rfl rfl rfl hd_X4_boat ⟨by decide, by decide⟩ rfl rfl (Nat.le_of_ble_eq_true rfl) dL_law_277 ?_
                  refine v_topi (y := 0) (by rw [bn 5 (by decide) (by decide), bo_5]; exact if_pos hb) ?_
                  refine v_aload_n hC dL_law_280 3 rfl ?_
                  refine v_iload hC dL_law_281 1 rfl ?_
                  refine v_iconst (v := 3) hC dL_law_283 (by decide) ?_
                  refine v_callVr (v := .int (setC (xFi (pushX (xFi X 36 f6) t m) k f) m (nI k) 3)) (C2 := CC Λ (xFi (pushX (xFi X 36 f6) t m) k f) Y) (As := [.int (nI k), .int 3]) (rest := [.int 0]) hC 2 197 (c_X4_set Λ (xFi (pushX (xFi X 36 f6) t m) k f) Y (s := nI k) (v := 3) jm0 jm) (nR_of (by decide)) (cc_197 Λ (xFi (pushX (xFi X 36 f6) t m) k f) Y) rfl gL_law_X4_set rfl rfl rfl hd_X4_set ⟨by decide, by decide⟩ rfl rfl (Nat.le_of_ble_eq_true rfl) dL_law_284 ?_
                  refine v_topi (y := fp f) (by rw [set_T g213 jm, ef]; exact se_3 _) ?_
                  refine v_icmp_le (tgt := 311) hC dL_law_287 (by decide) (fun _ => ?_) (fun zz => absurd (show 0 ≤ fp f by rw [p2]; exact nI_pos' (by omega)) zz)
                  refine v_aload_n hC dL_law_311 3 rfl ?_
                  refine v_iload hC dL_law_312 1 rfl ?_
                  refine v_iload hC dL_law_314 0 rfl ?_
                  refine v_iconst (v := 5) hC dL_law_316 (by decide) ?_
                  refine v_callVr (v := .int (boatC (xFi (pushX (xFi X 36 f6) t m) k f) m (nI k) (nI q) 5)) (C2 := CC Λ (xFi (pushX (xFi X 36 f6) t m) k f) Y) (As := [.int (nI k), .int (nI q), .int 5]) (rest := []) hC 3 197 (c_X4_boat Λ (xFi (pushX (xFi X 36 f6) t m) k f) Y (s := nI k) (b := nI q) (v := 5) jm0 jm) (nR_of (by decide)) (cc_197 Λ (xFi (pushX (xFi X 36 f6) t m) k f) Y) rfl gL_law_X4_boat rfl rfl rfl hd_X4_boat ⟨by decide, by decide⟩ rfl rfl (Nat.le_of_ble_eq_true rfl) dL_law_317 ?_
                  refine v_topi (y := 0) (by rw [bn 5 (by decide) (by decide), bo_5]; exact if_pos hb) ?_
                  refine v_if_le (tgt := 344) hC dL_law_320 (by decide) (fun _ => ?_) (fun zz => absurd (show (0 : Int32) ≤ 0 by decide) zz)
                  refine v_iinc (j := 0) (v := nI (q + 1)) (lv' := [(7, .int (nI (q + 1))), (4, .int (nI k)), (2, rf Λ 204), (1, rf Λ 197), (0, .ref b)]) hC dL_law_344 rfl (nI_add q 1) (by decide) rfl ?_
                  refine v_goto (tgt := 264) hC dL_law_347 (by decide) ?_
                  refine v_sub (lv' := [(7, .int (nI (q + 1))), (4, .int (nI k)), (2, rf Λ 204), (1, rf Λ 197), (0, .ref b)]) [0, 1, 2, 3, 4] rfl ?_
                  exact ih264 (q + 1) (by omega) (by omega)
                · have np : fp f < unitsC f q (bestC f q) := (f5 q g268).elim (fun zz => absurd zz.symm hb) id
                  have up : 0 < unitsC f q (bestC f q) := Int32.lt_of_le_of_lt (show 0 ≤ fp f by rw [p2]; exact nI_pos' (by omega)) np
                  refine v_aload_n hC dL_law_271 3 rfl ?_
                  refine v_iload hC dL_law_272 1 rfl ?_
                  refine v_iload hC dL_law_274 0 rfl ?_
                  refine v_iconst (v := 5) hC dL_law_276 (by decide) ?_
                  refine v_callVr (v := .int (boatC (xFi (pushX (xFi X 36 f6) t m) k f) m (nI k) (nI q) 5)) (C2 := CC Λ (xFi (pushX (xFi X 36 f6) t m) k f) Y) (As := [.int (nI k), .int (nI q), .int 5]) (rest := []) hC 3 197 (c_X4_boat Λ (xFi (pushX (xFi X 36 f6) t m) k f) Y (s := nI k) (b := nI q) (v := 5) jm0 jm) (nR_of (by decide)) (cc_197 Λ (xFi (pushX (xFi X 36 f6) t m) k f) Y) rfl gL_law_X4_boat rfl rfl rfl hd_X4_boat ⟨by decide, by decide⟩ rfl rfl (Nat.le_of_ble_eq_true rfl) dL_law_277 ?_
                  refine v_topi (y := unitsC f q (bestC f q)) (by rw [bn 5 (by decide) (by decide), bo_5]; exact if_neg hb) ?_
                  refine v_aload_n hC dL_law_280 3 rfl ?_
                  refine v_iload hC dL_law_281 1 rfl ?_
                  refine v_iconst (v := 3) hC dL_law_283 (by decide) ?_
                  refine v_callVr (v := .int (setC (xFi (pushX (xFi X 36 f6) t m) k f) m (nI k) 3)) (C2 := CC Λ (xFi (pushX (xFi X 36 f6) t m) k f) Y) (As := [.int (nI k), .int 3]) (rest := [.int (unitsC f q (bestC f q))]) hC 2 197 (c_X4_set Λ (xFi (pushX (xFi X 36 f6) t m) k f) Y (s := nI k) (v := 3) jm0 jm) (nR_of (by decide)) (cc_197 Λ (xFi (pushX (xFi X 36 f6) t m) k f) Y) rfl gL_law_X4_set rfl rfl rfl hd_X4_set ⟨by decide, by decide⟩ rfl rfl (Nat.le_of_ble_eq_true rfl) dL_law_284 ?_
                  refine v_topi (y := fp f) (by rw [set_T g213 jm, ef]; exact se_3 _) ?_
                  refine v_icmp_le (tgt := 311) hC dL_law_287 (by decide) (fun zz => absurd zz (Int32.not_le.mpr np)) (fun _ => ?_)
                  refine v_aload_n hC dL_law_290 3 rfl ?_
                  refine v_iload hC dL_law_291 1 rfl ?_
                  refine v_iload hC dL_law_293 0 rfl ?_
                  refine v_iconst (v := 0) hC dL_law_295 (by decide) ?_
                  refine v_callVr (v := .int (boatC (xFi (pushX (xFi X 36 f6) t m) k f) m (nI k) (nI q) 0)) (C2 := CC Λ (xFi (pushX (xFi X 36 f6) t m) k f) Y) (As := [.int (nI k), .int (nI q), .int 0]) (rest := []) hC 3 197 (c_X4_boat Λ (xFi (pushX (xFi X 36 f6) t m) k f) Y (s := nI k) (b := nI q) (v := 0) jm0 jm) (nR_of (by decide)) (cc_197 Λ (xFi (pushX (xFi X 36 f6) t m) k f) Y) rfl gL_law_X4_boat rfl rfl rfl hd_X4_boat ⟨by decide, by decide⟩ rfl rfl (Nat.le_of_ble_eq_true rfl) dL_law_296 ?_
                  refine v_topi (y := fk f q) (by rw [bn 0 (by decide) (by decide), bo_0]) ?_
                  refine v_aload_n hC dL_law_299 3 rfl ?_
                  refine v_iload hC dL_law_300 1 rfl ?_
                  refine v_iload hC dL_law_302 0 rfl ?_
                  refine v_iconst (v := 4) hC dL_law_304 (by decide) ?_
                  refine v_callVr (v := .int (boatC (xFi (pushX (xFi X 36 f6) t m) k f) m (nI k) (nI q) 4)) (C2 := CC Λ (xFi (pushX (xFi X 36 f6) t m) k f) Y) (As := [.int (nI k), .int (nI q), .int 4]) (rest := [.int (fk f q)]) hC 3 197 (c_X4_boat Λ (xFi (pushX (xFi X 36 f6) t m) k f) Y (s := nI k) (b := nI q) (v := 4) jm0 jm) (nR_of (by decide)) (cc_197 Λ (xFi (pushX (xFi X 36 f6) t m) k f) Y) rfl gL_law_X4_boat rfl rfl rfl hd_X4_boat ⟨by decide, by decide⟩ rfl rfl (Nat.le_of_ble_eq_true rfl) dL_law_305 ?_
                  refine v_topi (y := bestC f q) (by rw [bn 4 (by decide) (by decide), bo_4]) ?_
                  refine v_icmp_eq (tgt := 342) hC dL_law_308 (by decide) (fun zz => absurd zz (show ¬ fk f q = bestC f q from fun zz => hb zz.symm)) (fun _ => ?_)
                  refine v_aload_n hC dL_law_311 3 rfl ?_
                  refine v_iload hC dL_law_312 1 rfl ?_
                  refine v_iload hC dL_law_314 0 rfl ?_
                  refine v_iconst (v := 5) hC dL_law_316 (by decide) ?_
                  refine v_callVr (v := .int (boatC (xFi (pushX (xFi X 36 f6) t m) k f) m (nI k) (nI q) 5)) (C2 := CC Λ (xFi (pushX (xFi X 36 f6) t m) k f) Y) (As := [.int (nI k), .int (nI q), .int 5]) (rest := []) hC 3 197 (c_X4_boat Λ (xFi (pushX (xFi X 36 f6) t m) k f) Y (s := nI k) (b := nI q) (v := 5) jm0 jm) (nR_of (by decide)) (cc_197 Λ (xFi (pushX (xFi X 36 f6) t m) k f) Y) rfl gL_law_X4_boat rfl rfl rfl hd_X4_boat ⟨by decide, by decide⟩ rfl rfl (Nat.le_of_ble_eq_true rfl) dL_law_317 ?_
                  refine v_topi (y := unitsC f q (bestC f q)) (by rw [bn 5 (by decide) (by decide), bo_5]; exact if_neg hb) ?_
                  refine v_if_le (tgt := 344) hC dL_law_320 (by decide) (fun zz => absurd zz (Int32.not_le.mpr up)) (fun _ => ?_)
                  refine v_aload_n hC dL_law_323 3 rfl ?_
                  refine v_iload hC dL_law_324 1 rfl ?_
                  refine v_iload hC dL_law_326 0 rfl ?_
                  refine v_iconst (v := 5) hC dL_law_328 (by decide) ?_
                  refine v_callVr (v := .int (boatC (xFi (pushX (xFi X 36 f6) t m) k f) m (nI k) (nI q) 5)) (C2 := CC Λ (xFi (pushX (xFi X 36 f6) t m) k f) Y) (As := [.int (nI k), .int (nI q), .int 5]) (rest := []) hC 3 197 (c_X4_boat Λ (xFi (pushX (xFi X 36 f6) t m) k f) Y (s := nI k) (b := nI q) (v := 5) jm0 jm) (nR_of (by decide)) (cc_197 Λ (xFi (pushX (xFi X 36 f6) t m) k f) Y) rfl gL_law_X4_boat rfl rfl rfl hd_X4_boat ⟨by decide, by decide⟩ rfl rfl (Nat.le_of_ble_eq_true rfl) dL_law_329 ?_
                  refine v_topi (y := unitsC f q (bestC f q)) (by rw [bn 5 (by decide) (by decide), bo_5]; exact if_neg hb) ?_
                  refine v_aload_n hC dL_law_332 3 rfl ?_
                  refine v_iload hC dL_law_333 1 rfl ?_
                  refine v_iconst (v := 3) hC dL_law_335 (by decide) ?_
                  refine v_callVr (v := .int (setC (xFi (pushX (xFi X 36 f6) t m) k f) m (nI k) 3)) (C2 := CC Λ (xFi (pushX (xFi X 36 f6) t m) k f) Y) (As := [.int (nI k), .int 3]) (rest := [.int (unitsC f q (bestC f q))]) hC 2 197 (c_X4_set Λ (xFi (pushX (xFi X 36 f6) t m) k f) Y (s := nI k) (v := 3) jm0 jm) (nR_of (by decide)) (cc_197 Λ (xFi (pushX (xFi X 36 f6) t m) k f) Y) rfl gL_law_X4_set rfl rfl rfl hd_X4_set ⟨by decide, by decide⟩ rfl rfl (Nat.le_of_ble_eq_true rfl) dL_law_336 ?_
                  refine v_topi (y := fp f) (by rw [set_T g213 jm, ef]; exact se_3 _) ?_
                  refine v_icmp_gt (tgt := 344) hC dL_law_339 (by decide) (fun _ => ?_) (fun zz => absurd np zz)
                  refine v_iinc (j := 0) (v := nI (q + 1)) (lv' := [(7, .int (nI (q + 1))), (4, .int (nI k)), (2, rf Λ 204), (1, rf Λ 197), (0, .ref b)]) hC dL_law_344 rfl (nI_add q 1) (by decide) rfl ?_
                  refine v_goto (tgt := 264) hC dL_law_347 (by decide) ?_
                  refine v_sub (lv' := [(7, .int (nI (q + 1))), (4, .int (nI k)), (2, rf Λ 204), (1, rf Λ 197), (0, .ref b)]) [0, 1, 2, 3, 4] rfl ?_
                  exact ih264 (q + 1) (by omega) (by omega)
        refine v_sub (lv' := [(7, .int 0), (4, .int (nI k)), (2, rf Λ 204), (1, rf Λ 197), (0, .ref b)]) [0, 3, 4, 5, 6] rfl ?_
        exact L264 _ 0 (Nat.zero_le _) (Nat.lt_succ_self _)
  refine v_iconst (v := 0) hC dL_law_203 (by decide) ?_
  refine v_istore (lv' := [(4, .int 0), (2, rf Λ 204), (1, rf Λ 197), (0, .ref b)]) hC dL_law_204 (by decide) rfl ?_
  exact LL _ 0 X t h (Nat.zero_le _) (Nat.lt_succ_self _)
set_option maxHeartbeats 1000000 in
set_option maxRecDepth 100000 in
theorem lg_s (hC : Ok Λ room_1 cL_law wsL_law RL 8 κ) (hS : Scr Λ b L xs κ) (hL : L < 2 ^ 31) (hend : ∀ (C : Mem) (lv : Lvs), V Λ κ C 422 lv [.int 1]) {X : XS} {Y : YS} {m t : Nat} (h : Inv X Y m t) (h1 : 0 < m) : V Λ κ (CC Λ X Y) 180 [(2, rf Λ 204), (1, rf Λ 197), (0, .ref b)] [] := by
  have hm0 := h.1.1
  have hm := h.1.2
  have hp0 := h.2.2.1.1
  have ht4 := h.2.2.1.2.1
  have hq := h.2.2.1.2.2.1
  have hl0 := h.2.2.2.2.1
  refine v_aload_n hC dL_law_180 1 rfl ?_
  refine v_aload_n hC dL_law_181 0 rfl ?_
  refine v_aload_n (x := b) hC dL_law_182 2 rfl ?_
  refine v_bipush (v := 37) hC dL_law_183 (by decide) ?_
  refine v_topi (y := nI 37) rfl ?_
  refine v_callSc (v := .int (cellF L xs 37)) (C2 := CC Λ X Y) (As := [.ref b, .int (nI 37)]) (rest := [rf Λ 204, rf Λ 197]) hC hS 2 (c_L_cell Λ X Y (k := 37) hL (by decide)) gL_law_L_cell rfl rfl rfl hd_L_cell ⟨by decide, by decide⟩ rfl rfl (Nat.le_of_ble_eq_true rfl) dL_law_185 ?_
  refine v_callSr (v := .int 1) (C2 := CC Λ X Y) (As := [rf Λ 197, rf Λ 204, .int (cellF L xs 37)]) (rest := []) hC 3 (c_L_sound Λ X Y (z := cellF L xs 37) h h1) gL_law_L_sound rfl rfl rfl hd_L_sound ⟨by decide, by decide⟩ rfl rfl (Nat.le_of_ble_eq_true rfl) dL_law_188 ?_
  refine v_if_eq (tgt := 201) hC dL_law_191 (by decide) (fun zz => absurd zz (show ¬ (1 : Int32) = 0 by decide)) (fun _ => ?_)
  refine v_aload_n hC dL_law_194 1 rfl ?_
  refine v_callSr (v := .int 1) (C2 := CC Λ X Y) (As := [rf Λ 197]) (rest := []) hC 1 (c_L_fails Λ X Y hm0 hm hp0 ht4 hq hl0) gL_law_L_fails rfl rfl rfl hd_L_fails ⟨by decide, by decide⟩ rfl rfl (Nat.le_of_ble_eq_true rfl) dL_law_195 ?_
  refine v_if_ne (tgt := 203) hC dL_law_198 (by decide) (fun _ => ?_) (fun zz => absurd zz (show ¬ (1 : Int32) = 0 by decide))
  exact lg_d hC hS hL hend h h1
set_option maxHeartbeats 1000000 in
set_option maxRecDepth 100000 in
theorem lg_a (hC : Ok Λ room_1 cL_law wsL_law RL 8 κ) (hS : Scr Λ b L xs κ) (hL : L < 2 ^ 31) (hend : ∀ (C : Mem) (lv : Lvs), V Λ κ C 422 lv [.int 1]) {X : XS} {Y : YS} {m t : Nat} (h : Inv X Y m t) (h1 : 0 < m) : V Λ κ (CC Λ X Y) 137 [(2, rf Λ 204), (1, rf Λ 197), (0, .ref b)] [] := by
  have LL : ∀ (fu q : Nat) (X : XS) (Y : YS) (m t : Nat), Inv X Y m t → 0 < m → q ≤ 18 → 18 - q < fu → V Λ κ (CC Λ X Y) 140 [(4, .int (nI q)), (2, rf Λ 204), (1, rf Λ 197), (0, .ref b)] [] := by
    intro fu
    induction fu with
    | zero => intro q X Y m t h h1 hq18 hfu; exact absurd hfu (Nat.not_lt_zero _)
    | succ fu ih =>
      intro q X Y m t h h1 hq18 hfu
      refine v_iload hC dL_law_140 0 rfl ?_
      refine v_bipush (v := 18) hC dL_law_142 (by decide) ?_
      refine v_icmp_ge (tgt := 180) hC dL_law_144 (by decide) (fun c144 => ?_) (fun c144 => ?_)
      · refine v_sub (lv' := [(2, rf Λ 204), (1, rf Λ 197), (0, .ref b)]) [1, 2, 3] rfl ?_
        exact lg_s hC hS hL hend h h1
      · have g144 : q < 18 := Nat.lt_of_not_le (fun z => c144 ((nI_leI (a := 18) (b := q) (by decide) (by omega)).mpr z))
        refine v_aload_n hC dL_law_147 2 rfl ?_
        refine v_aload_n (x := b) hC dL_law_148 3 rfl ?_
        refine v_iconst (v := 1) hC dL_law_149 (by decide) ?_
        refine v_iload hC dL_law_150 0 rfl ?_
        refine v_iadd (x := 1) (y := nI q) hC dL_law_152 ?_
        refine v_topi (y := nI (1 + q)) (nI_add 1 q) ?_
        refine v_callSc (v := .int (cellF L xs (1 + q))) (C2 := CC Λ X Y) (As := [.ref b, .int (nI (1 + q))]) (rest := [rf Λ 197]) hC hS 2 (c_L_cell Λ X Y (k := (1 + q)) hL (by omega)) gL_law_L_cell rfl rfl rfl hd_L_cell ⟨by decide, by decide⟩ rfl rfl (Nat.le_of_ble_eq_true rfl) dL_law_153 ?_
        refine v_aload_n (x := b) hC dL_law_156 3 rfl ?_
        refine v_bipush (v := 19) hC dL_law_157 (by decide) ?_
        refine v_iload hC dL_law_159 0 rfl ?_
        refine v_iadd (x := 19) (y := nI q) hC dL_law_161 ?_
        refine v_topi (y := nI (19 + q)) (nI_add 19 q) ?_
        refine v_callSc (v := .int (cellF L xs (19 + q))) (C2 := CC Λ X Y) (As := [.ref b, .int (nI (19 + q))]) (rest := [.int (cellF L xs (1 + q)), rf Λ 197]) hC hS 2 (c_L_cell Λ X Y (k := (19 + q)) hL (by omega)) gL_law_L_cell rfl rfl rfl hd_L_cell ⟨by decide, by decide⟩ rfl rfl (Nat.le_of_ble_eq_true rfl) dL_law_162 ?_
        refine v_aload_n hC dL_law_165 1 rfl ?_
        obtain ⟨X2, g2, m2, t2, hcon, i2, hm2⟩ := c_L_acts Λ X Y (z := cellF L xs (1 + q)) (p := cellF L xs (19 + q)) h h1
        refine v_callSr (v := .int 1) (C2 := CC Λ X2 g2) (As := [rf Λ 197, .int (cellF L xs (1 + q)), .int (cellF L xs (19 + q)), rf Λ 204]) (rest := []) hC 4 hcon gL_law_L_acts rfl rfl rfl hd_L_acts ⟨by decide, by decide⟩ rfl rfl (Nat.le_of_ble_eq_true rfl) dL_law_166 ?_
        refine v_if_ne (tgt := 174) hC dL_law_169 (by decide) (fun _ => ?_) (fun zz => absurd zz (show ¬ (1 : Int32) = 0 by decide))
        refine v_iinc (j := 0) (v := nI (q + 1)) (lv' := [(4, .int (nI (q + 1))), (2, rf Λ 204), (1, rf Λ 197), (0, .ref b)]) hC dL_law_174 rfl (nI_add q 1) (by decide) rfl ?_
        refine v_goto (tgt := 140) hC dL_law_177 (by decide) ?_
        refine v_sub (lv' := [(4, .int (nI (q + 1))), (2, rf Λ 204), (1, rf Λ 197), (0, .ref b)]) [0, 1, 2, 3] rfl ?_
        exact ih (q + 1) X2 g2 m2 t2 i2 (by omega) (by omega) (by omega)
  refine v_iconst (v := 0) hC dL_law_137 (by decide) ?_
  refine v_istore (lv' := [(4, .int 0), (2, rf Λ 204), (1, rf Λ 197), (0, .ref b)]) hC dL_law_138 (by decide) rfl ?_
  exact LL _ 0 X Y m t h h1 (Nat.zero_le _) (Nat.lt_succ_self _)
set_option maxHeartbeats 1000000 in
set_option maxRecDepth 100000 in
theorem lg_n (hC : Ok Λ room_1 cL_law wsL_law RL 8 κ) (hS : Scr Λ b L xs κ) (hL : L < 2 ^ 31) (hend : ∀ (C : Mem) (lv : Lvs), V Λ κ C 422 lv [.int 1]) {n : Nat} (hn : 2 ≤ n) (hn2 : n ≤ 6) : V Λ κ (CC Λ x1S y0S) 89 [(4, .int (nI 0)), (3, .int (nI n)), (2, rf Λ 204), (1, rf Λ 197), (0, .ref b)] [] := by
  have LL : ∀ (fu q : Nat) (X : XS) (Y : YS) (t : Nat), Inv X Y q t → q ≤ n → n - q < fu → V Λ κ (CC Λ X Y) 89 [(4, .int (nI q)), (3, .int (nI n)), (2, rf Λ 204), (1, rf Λ 197), (0, .ref b)] [] := by
    intro fu
    induction fu with
    | zero => intro q X Y t h hqn hfu; exact absurd hfu (Nat.not_lt_zero _)
    | succ fu ih =>
      intro q X Y t h hqn hfu
      have hm0 := h.1.1
      have hm := h.1.2
      have hp0 := h.2.2.1.1
      have ht4 := h.2.2.1.2.1
      have hq := h.2.2.1.2.2.1
      have hl0 := h.2.2.2.2.1
      refine v_iload hC dL_law_89 0 rfl ?_
      refine v_iload_n hC dL_law_91 1 rfl ?_
      refine v_icmp_ge (tgt := 137) hC dL_law_92 (by decide) (fun c92 => ?_) (fun c92 => ?_)
      · have g92 : n ≤ q := (nI_leI (a := n) (b := q) (by omega) (by omega)).mp c92
        refine v_sub (lv' := [(2, rf Λ 204), (1, rf Λ 197), (0, .ref b)]) [2, 3, 4] rfl ?_
        exact lg_a hC hS hL hend h (by omega)
      · have g92 : q < n := Nat.lt_of_not_le (fun z => c92 ((nI_leI (a := n) (b := q) (by omega) (by omega)).mpr z))
        refine v_aload_n hC dL_law_95 2 rfl ?_
        refine v_iload hC dL_law_96 0 rfl ?_
        refine v_aload_n (x := b) hC dL_law_98 4 rfl ?_
        refine v_iconst (v := 0) hC dL_law_99 (by decide) ?_
        refine v_topi (y := nI 0) rfl ?_
        refine v_callSc (v := .int (cellF L xs 0)) (C2 := CC Λ X Y) (As := [.ref b, .int (nI 0)]) (rest := [.int (nI q), rf Λ 204]) hC hS 2 (c_L_cell Λ X Y (k := 0) hL (by decide)) gL_law_L_cell rfl rfl rfl hd_L_cell ⟨by decide, by decide⟩ rfl rfl (Nat.le_of_ble_eq_true rfl) dL_law_100 ?_
        refine v_iconst (v := 3) hC dL_law_103 (by decide) ?_
        refine v_iconst (v := 5) hC dL_law_104 (by decide) ?_
        refine v_iload hC dL_law_105 0 rfl ?_
        refine v_imul (x := 5) (y := nI q) hC dL_law_107 ?_
        refine v_iadd (x := 3) (y := 5 * (nI q)) hC dL_law_108 ?_
        refine v_ishr (x := cellF L xs 0) (y := 3 + (5 * (nI q))) hC dL_law_109 ?_
        refine v_bipush (v := 80) hC dL_law_110 (by decide) ?_
        refine v_topi (y := nI 80) rfl ?_
        refine v_callSr (v := .int (nI (upN ((cellF L xs 0) >>> ((3 + (5 * (nI q))) &&& 31)) 80))) (C2 := CC Λ X Y) (As := [.int ((cellF L xs 0) >>> ((3 + (5 * (nI q))) &&& 31)), .int (nI 80)]) (rest := [.int (nI q), rf Λ 204]) hC 2 (c_L_up Λ X Y (x := (cellF L xs 0) >>> ((3 + (5 * (nI q))) &&& 31)) (n := 80) (by decide) (by decide)) gL_law_L_up rfl rfl rfl hd_L_up ⟨by decide, by decide⟩ rfl rfl (Nat.le_of_ble_eq_true rfl) dL_law_112 ?_
        obtain ⟨pu, hpu⟩ : ∃ pu, (upN ((cellF L xs 0) >>> ((3 + (5 * (nI q))) &&& 31)) 80) = pu := ⟨_, rfl⟩
        have hpu2 : pu < 80 := by rw [← hpu]; exact upN_lt _ (by decide)
        refine v_topi (y := nI pu) (by rw [hpu]) ?_
        refine v_iast hC 204 (nR_of (by decide)) (cc_204 Λ X Y) q rfl (by omega) (by decide) dL_law_115 ?_
        refine v_mem (C' := CC Λ X (upd Y q (nI pu))) (cs_y Λ _ _ _) ?_
        refine v_aload_n hC dL_law_116 3 rfl ?_
        refine v_aload_n hC dL_law_117 2 rfl ?_
        refine v_iload hC dL_law_118 0 rfl ?_
        refine v_iald hC 204 (nR_of (by decide)) (cc_204 Λ X (upd Y q (nI pu))) q rfl (by omega) (by decide) dL_law_120 ?_
        refine v_topi (y := nI pu) pk_us ?_
        refine v_callVr (v := .int (nI q)) (C2 := CC Λ (opH (pushX X t q) 0 q (nI pu)) (upd Y q (nI pu))) (As := [.int (nI pu)]) (rest := []) hC 1 197 (con_E (c_X4_newSet Λ X (upd Y q (nI pu)) (c := nI pu) hm0 hm hp0 ht4 hq) (new_T (by omega) (by omega))) (nR_of (by decide)) (cc_197 Λ X (upd Y q (nI pu))) rfl gL_law_X4_newSet rfl rfl rfl hd_X4_newSet ⟨by decide, by decide⟩ rfl rfl (Nat.le_of_ble_eq_true rfl) dL_law_121 ?_
        refine v_iload hC dL_law_124 0 rfl ?_
        refine v_icmp_eq (tgt := 131) hC dL_law_126 (by decide) (fun _ => ?_) (fun zz => absurd rfl zz)
        refine v_iinc (j := 0) (v := nI (q + 1)) (lv' := [(4, .int (nI (q + 1))), (3, .int (nI n)), (2, rf Λ 204), (1, rf Λ 197), (0, .ref b)]) hC dL_law_131 rfl (nI_add q 1) (by decide) rfl ?_
        refine v_goto (tgt := 89) hC dL_law_134 (by decide) ?_
        exact ih (q + 1) _ _ (phZ t) (inv_open (g' := upd Y q (nI pu)) h (by omega) (by omega) pk_us (fun j hj => pk_un (by omega))).1 (by omega) (by omega)
  exact LL _ 0 x1S y0S 0 inv_1 (Nat.zero_le _) (Nat.lt_succ_self _)
set_option maxHeartbeats 1000000 in
set_option maxRecDepth 100000 in
theorem lg_0 (hC : Ok Λ room_1 cL_law wsL_law RL 8 κ) (hS : Scr Λ b L xs κ) (hL : L < 2 ^ 31) (hend : ∀ (C : Mem) (lv : Lvs), V Λ κ C 422 lv [.int 1])  : V Λ κ (CC Λ x0S y0S) 13 [(2, rf Λ 204), (1, rf Λ 197), (0, .ref b)] [] := by
  have hq0 : ∀ j, xq x0S j < 4 := fun j => Nat.mod_lt _ (by decide)
  have hm0 := inv_1.1.1
  have hm := inv_1.1.2
  have hp0 := inv_1.2.2.1.1
  have ht4 := inv_1.2.2.1.2.1
  have hq := inv_1.2.2.1.2.2.1
  have hl0 := inv_1.2.2.2.2.1
  refine v_aload_n hC dL_law_13 1 rfl ?_
  refine v_callVr (v := .int (-5)) (C2 := CC Λ x0S y0S) (As := []) (rest := []) hC 0 197 (con_E (c_X4_undo Λ x0S y0S (u := 0) (t := 0) rfl (by decide) hq0 rfl (by decide)) (if_pos rfl)) (nR_of (by decide)) (cc_197 Λ x0S y0S) rfl gL_law_X4_undo rfl rfl rfl hd_X4_undo ⟨by decide, by decide⟩ rfl rfl (Nat.le_of_ble_eq_true rfl) dL_law_14 ?_
  refine v_bipush (v := (-5)) hC dL_law_17 (by decide) ?_
  refine v_icmp_ne (tgt := 72) hC dL_law_19 (by decide) (fun zz => absurd rfl zz) (fun _ => ?_)
  refine v_aload_n hC dL_law_22 1 rfl ?_
  refine v_callVr (v := .int (-5)) (C2 := CC Λ x0S y0S) (As := []) (rest := []) hC 0 197 (con_E (c_X4_restore Λ x0S y0S (u := 0) (sn := false) (t := 0) (m := 0) rfl (by decide) rfl (by decide) hq0 rfl rfl (by decide)) (if_pos rfl)) (nR_of (by decide)) (cc_197 Λ x0S y0S) rfl gL_law_X4_restore rfl rfl rfl hd_X4_restore ⟨by decide, by decide⟩ rfl rfl (Nat.le_of_ble_eq_true rfl) dL_law_23 ?_
  refine v_bipush (v := (-5)) hC dL_law_26 (by decide) ?_
  refine v_icmp_ne (tgt := 72) hC dL_law_28 (by decide) (fun zz => absurd rfl zz) (fun _ => ?_)
  refine v_aload_n hC dL_law_31 1 rfl ?_
  refine v_callVr (v := .int (mhO (hF x0S 0) 0 32 0 (-5) 0)) (C2 := CC Λ x0S y0S) (As := []) (rest := []) hC 0 197 (c_X4_most Λ x0S y0S rfl (by decide)) (nR_of (by decide)) (cc_197 Λ x0S y0S) rfl gL_law_X4_most rfl rfl rfl hd_X4_most ⟨by decide, by decide⟩ rfl rfl (Nat.le_of_ble_eq_true rfl) dL_law_32 ?_
  refine v_topi (y := (-5)) e_most0 ?_
  refine v_bipush (v := (-5)) hC dL_law_35 (by decide) ?_
  refine v_icmp_ne (tgt := 72) hC dL_law_37 (by decide) (fun zz => absurd rfl zz) (fun _ => ?_)
  refine v_aload_n hC dL_law_40 1 rfl ?_
  refine v_iconst (v := 0) hC dL_law_41 (by decide) ?_
  refine v_callVr (v := .int (allC x0S 0 0)) (C2 := CC Λ x0S y0S) (As := [.int 0]) (rest := []) hC 1 197 (c_X4_ofAll Λ x0S y0S (p := 0) rfl (by decide)) (nR_of (by decide)) (cc_197 Λ x0S y0S) rfl gL_law_X4_ofAll rfl rfl rfl hd_X4_ofAll ⟨by decide, by decide⟩ rfl rfl (Nat.le_of_ble_eq_true rfl) dL_law_42 ?_
  refine v_topi (y := (-5)) e_all0 ?_
  refine v_bipush (v := (-5)) hC dL_law_45 (by decide) ?_
  refine v_icmp_ne (tgt := 72) hC dL_law_47 (by decide) (fun zz => absurd rfl zz) (fun _ => ?_)
  refine v_aload_n hC dL_law_50 1 rfl ?_
  refine v_iconst (v := 0) hC dL_law_51 (by decide) ?_
  refine v_callVr (v := .int (cntC x0S 0 0 0 0)) (C2 := CC Λ x0S y0S) (As := [.int 0]) (rest := []) hC 1 197 (c_X4_count Λ x0S y0S (v := 0) rfl (by decide) rfl (by decide) rfl (Nat.zero_le _)) (nR_of (by decide)) (cc_197 Λ x0S y0S) rfl gL_law_X4_count rfl rfl rfl hd_X4_count ⟨by decide, by decide⟩ rfl rfl (Nat.le_of_ble_eq_true rfl) dL_law_52 ?_
  refine v_topi (y := nI 0) (ct_0 x0S 0 0 0) ?_
  refine v_if_ne (tgt := 72) hC dL_law_55 (by decide) (fun zz => absurd rfl zz) (fun _ => ?_)
  refine v_aload_n hC dL_law_58 1 rfl ?_
  refine v_callVr (v := .int (nI 0)) (C2 := CC Λ x1S y0S) (As := []) (rest := []) hC 0 197 (con_E (v := nI 0) (X' := x1S) (c_X4_keep Λ x0S y0S (m := 0) rfl (by decide)) rfl) (nR_of (by decide)) (cc_197 Λ x0S y0S) rfl gL_law_X4_keep rfl rfl rfl hd_X4_keep ⟨by decide, by decide⟩ rfl rfl (Nat.le_of_ble_eq_true rfl) dL_law_59 ?_
  refine v_if_ne (tgt := 72) hC dL_law_62 (by decide) (fun zz => absurd rfl zz) (fun _ => ?_)
  refine v_aload_n hC dL_law_65 1 rfl ?_
  refine v_callSr (v := .int 1) (C2 := CC Λ x1S y0S) (As := [rf Λ 197]) (rest := []) hC 1 (c_L_fails Λ x1S y0S hm0 hm hp0 ht4 hq hl0) gL_law_L_fails rfl rfl rfl hd_L_fails ⟨by decide, by decide⟩ rfl rfl (Nat.le_of_ble_eq_true rfl) dL_law_66 ?_
  refine v_if_ne (tgt := 74) hC dL_law_69 (by decide) (fun _ => ?_) (fun zz => absurd zz (show ¬ (1 : Int32) = 0 by decide))
  refine v_iconst (v := 2) hC dL_law_74 (by decide) ?_
  refine v_aload_n (x := b) hC dL_law_75 2 rfl ?_
  refine v_iconst (v := 0) hC dL_law_76 (by decide) ?_
  refine v_topi (y := nI 0) rfl ?_
  refine v_callSc (v := .int (cellF L xs 0)) (C2 := CC Λ x1S y0S) (As := [.ref b, .int (nI 0)]) (rest := [.int 2]) hC hS 2 (c_L_cell Λ x1S y0S (k := 0) hL (by decide)) gL_law_L_cell rfl rfl rfl hd_L_cell ⟨by decide, by decide⟩ rfl rfl (Nat.le_of_ble_eq_true rfl) dL_law_77 ?_
  refine v_iconst (v := 3) hC dL_law_80 (by decide) ?_
  refine v_topi (y := nI 3) rfl ?_
  refine v_callSr (v := .int (nI (upN (cellF L xs 0) 3))) (C2 := CC Λ x1S y0S) (As := [.int (cellF L xs 0), .int (nI 3)]) (rest := [.int 2]) hC 2 (c_L_up Λ x1S y0S (x := cellF L xs 0) (n := 3) (by decide) (by decide)) gL_law_L_up rfl rfl rfl hd_L_up ⟨by decide, by decide⟩ rfl rfl (Nat.le_of_ble_eq_true rfl) dL_law_81 ?_
  refine v_iadd (x := 2) (y := nI (upN (cellF L xs 0) 3)) hC dL_law_84 ?_
  refine v_topi (y := nI (2 + upN (cellF L xs 0) 3)) (nI_add 2 _) ?_
  refine v_istore_n (lv' := [(3, .int (nI (2 + upN (cellF L xs 0) 3))), (2, rf Λ 204), (1, rf Λ 197), (0, .ref b)]) hC dL_law_85 (by decide) rfl ?_
  refine v_iconst (v := 0) hC dL_law_86 (by decide) ?_
  refine v_istore (lv' := [(4, .int 0), (3, .int (nI (2 + upN (cellF L xs 0) 3))), (2, rf Λ 204), (1, rf Λ 197), (0, .ref b)]) hC dL_law_87 (by decide) rfl ?_
  have hu := upN_lt (cellF L xs 0) (n := 3) (by decide)
  refine v_sub (lv' := [(4, .int 0), (3, .int (nI (2 + upN (cellF L xs 0) 3))), (2, rf Λ 204), (1, rf Λ 197), (0, .ref b)]) [0, 1, 2, 3, 4] rfl ?_
  exact lg_n hC hS hL hend (n := 2 + upN (cellF L xs 0) 3) (by omega) (by omega)
end LLAW
