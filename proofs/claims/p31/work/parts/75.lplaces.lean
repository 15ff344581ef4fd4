/-! The law: a set's places and gaps -/
theorem hd_L_places : yL_places.cls ≠ "java/lang/invoke/MethodHandle" ∧ yL_places.cls ≠ "java/lang/invoke/VarHandle" ∧ (parseMethodDescriptor yL_places.desc).map (fun d => d.parameters.length) = some 3 := by decide +kernel
set_option maxHeartbeats 4000000 in
set_option maxRecDepth 100000 in
theorem c_L_places (Λ : Lk) (X : XS) (Y : YS) {m s n : Nat} (hm0 : xh X 0 = nI m) (hm : m ≤ 6) (hs : s < m) (hg : Gd (X.1 s)) (hn : n < 2048) : Con Λ yL_places wsL_places { frames := 5, cells := 0, slots := 0, locals := 116 } [rf Λ 197, .int (nI s), .int (nI n)] (CC Λ X Y) (some (.int 1)) (CC Λ X Y) := by
  refine con_start (cc := cL_places) (maxL := 14) (ret := (some .boolean)) (by decide) rfl (Nat.le_of_ble_eq_true rfl) ?_
  intro κ hC hR
  have hC : Ok Λ { frames := 5, cells := 0, slots := 0, locals := 116 } cL_places wsL_places RL 14 κ := hC
  refine v_args (lv' := [(0, rf Λ 197), (1, .int (nI s)), (2, .int (nI n))]) rfl ?_
  obtain ⟨f, hf⟩ : ∃ f, X.1 s = f := ⟨_, rfl⟩
  rw [hf] at hg
  have sT : ∀ v, setC X m (nI s) v = setF f v := fun v => by rw [set_T hs hm, hf]
  have rT : ∀ n, n < 2048 → rankC X m (nI s) (nI n) = nI (cnt (fbit (fw f)) 0 n) := fun n hn => by rw [rank_T hs hm hn, hf]
  have xT : ∀ n, n < 2048 → nextC X m (nI s) (nI n) = atI (fw f) (nI (cnt (fbit (fw f)) 0 n)) := fun n hn => by rw [next_T hs hm hn, hf]
  have hT : ∀ n, n < 2048 → hasC X m (nI s) (nI n) = bI (fbit (fw f) n) := fun n hn => by rw [has_T hs hm hn, hf]
  have pT : ∀ p : Int32, ¬ p < 0 → placeC X m (nI s) p = atI (fw f) p := fun p hp => by rw [place_T hs hm hp, hf]
  have gT := gap_T (X := X) (ln := 1 + n) hs hm (by omega) (by omega)
  have nT := fun (be nx : Int32) => near_T (X := X) (be := be) (nx := nx) hs hm hn
  rw [hf] at gT nT
  obtain ⟨M, hM⟩ : ∃ M, cnt (fbit (fw f)) 0 2048 = M := ⟨_, rfl⟩
  obtain ⟨R, hR0⟩ : ∃ R, cnt (fbit (fw f)) 0 n = R := ⟨_, rfl⟩
  have hM2 : M ≤ 2048 := by rw [← hM]; exact cnt_le _ _ _
  have hRM : R ≤ M := by rw [← hM, ← hR0]; exact cnt_mono _ _ (by omega)
  have nx := nx_T (w := fw f) hn
  have be := bf_T (w := fw f) (Nat.le_of_lt hn)
  have sM : sumI (fs f) 8 = nI M := by rw [← hM]; exact sz_T hg
  have aE := at_end (w := fw f) (p := M) (by rw [hM]; exact Nat.le_refl _) (by omega)
  rw [hM, hR0] at nx
  rw [hR0] at be nT
  rw [hM] at gT
  have J298 : V Λ κ (CC Λ X Y) 298 [(3, .int (nI M)), (0, rf Λ 197), (1, .int (nI s)), (2, .int (nI n))] [.int 1] := by
    refine v_istore (lv' := [(9, .int 1), (3, .int (nI M)), (0, rf Λ 197), (1, .int (nI s)), (2, .int (nI n))]) hC dL_places_298 (by decide) rfl ?_
    rcases gT with ⟨g0, g1⟩ | ⟨g, g0, g1, g2, g3⟩
    · refine v_iconst (v := 1) hC dL_places_300 (by decide) ?_
      refine v_iload_n hC dL_places_301 4 rfl ?_
      refine v_iadd (x := 1) (y := nI n) hC dL_places_302 ?_
      refine v_topi (y := nI (1 + n)) (nI_add 1 n) ?_
      refine v_istore (lv' := [(10, .int (nI (1 + n))), (9, .int 1), (3, .int (nI M)), (0, rf Λ 197), (1, .int (nI s)), (2, .int (nI n))]) hC dL_places_303 (by decide) rfl ?_
      refine v_aload_n hC dL_places_305 3 rfl ?_
      refine v_iload_n hC dL_places_306 4 rfl ?_
      refine v_iload hC dL_places_307 0 rfl ?_
      refine v_callVr (v := .int (gapC X m (nI s) (nI (1 + n)))) (C2 := CC Λ X Y) (As := [.int (nI s), .int (nI (1 + n))]) (rest := []) hC 2 197 (c_X4_gap Λ X Y (s := nI s) (len := nI (1 + n)) hm0 hm) (nR_of (by decide)) (cc_197 Λ X Y) rfl gL_places_X4_gap rfl rfl rfl hd_X4_gap ⟨by decide, by decide⟩ rfl rfl (Nat.le_of_ble_eq_true rfl) dL_places_309 ?_
      refine v_topi (y := (-5)) g0 ?_
      refine v_istore (lv' := [(11, .int (-5)), (10, .int (nI (1 + n))), (9, .int 1), (3, .int (nI M)), (0, rf Λ 197), (1, .int (nI s)), (2, .int (nI n))]) hC dL_places_312 (by decide) rfl ?_
      refine v_iload hC dL_places_314 0 rfl ?_
      refine v_iload hC dL_places_316 1 rfl ?_
      refine v_iadd (x := (-5)) (y := nI (1 + n)) hC dL_places_318 ?_
      refine v_istore (lv' := [(12, .int ((-5) + (nI (1 + n)))), (11, .int (-5)), (10, .int (nI (1 + n))), (9, .int 1), (3, .int (nI M)), (0, rf Λ 197), (1, .int (nI s)), (2, .int (nI n))]) hC dL_places_319 (by decide) rfl ?_
      refine v_iload hC dL_places_321 1 rfl ?_
      refine v_if_ge (tgt := 348) hC dL_places_323 (by decide) (fun h => absurd h (show ¬ (0 : Int32) ≤ -5 by decide)) (fun _ => ?_)
      refine v_iload hC dL_places_326 3 rfl ?_
      refine v_if_eq (tgt := 346) hC dL_places_328 (by decide) (fun h => absurd h (show ¬ (1 : Int32) = 0 by decide)) (fun _ => ?_)
      refine v_iload hC dL_places_331 1 rfl ?_
      refine v_bipush (v := (-5)) hC dL_places_333 (by decide) ?_
      refine v_icmp_ne (tgt := 346) hC dL_places_335 (by decide) (fun h => absurd rfl h) (fun _ => ?_)
      refine v_iload_n hC dL_places_338 4 rfl ?_
      refine v_if_le (tgt := 346) hC dL_places_339 (by decide) (fun h => absurd h (nI_nle g1 (by omega))) (fun _ => ?_)
      refine v_iconst (v := 1) hC dL_places_342 (by decide) ?_
      refine v_goto (tgt := 347) hC dL_places_343 (by decide) ?_
      exact v_zret hC hR rfl rfl rfl dL_places_347
    · refine v_iconst (v := 1) hC dL_places_300 (by decide) ?_
      refine v_iload_n hC dL_places_301 4 rfl ?_
      refine v_iadd (x := 1) (y := nI n) hC dL_places_302 ?_
      refine v_topi (y := nI (1 + n)) (nI_add 1 n) ?_
      refine v_istore (lv' := [(10, .int (nI (1 + n))), (9, .int 1), (3, .int (nI M)), (0, rf Λ 197), (1, .int (nI s)), (2, .int (nI n))]) hC dL_places_303 (by decide) rfl ?_
      refine v_aload_n hC dL_places_305 3 rfl ?_
      refine v_iload_n hC dL_places_306 4 rfl ?_
      refine v_iload hC dL_places_307 0 rfl ?_
      refine v_callVr (v := .int (gapC X m (nI s) (nI (1 + n)))) (C2 := CC Λ X Y) (As := [.int (nI s), .int (nI (1 + n))]) (rest := []) hC 2 197 (c_X4_gap Λ X Y (s := nI s) (len := nI (1 + n)) hm0 hm) (nR_of (by decide)) (cc_197 Λ X Y) rfl gL_places_X4_gap rfl rfl rfl hd_X4_gap ⟨by decide, by decide⟩ rfl rfl (Nat.le_of_ble_eq_true rfl) dL_places_309 ?_
      refine v_topi (y := nI g) g0 ?_
      refine v_istore (lv' := [(11, .int (nI g)), (10, .int (nI (1 + n))), (9, .int 1), (3, .int (nI M)), (0, rf Λ 197), (1, .int (nI s)), (2, .int (nI n))]) hC dL_places_312 (by decide) rfl ?_
      refine v_iload hC dL_places_314 0 rfl ?_
      refine v_iload hC dL_places_316 1 rfl ?_
      refine v_iadd (x := nI g) (y := nI (1 + n)) hC dL_places_318 ?_
      refine v_topi (y := nI (g + (1 + n))) (nI_add g (1 + n)) ?_
      refine v_istore (lv' := [(12, .int (nI (g + (1 + n)))), (11, .int (nI g)), (10, .int (nI (1 + n))), (9, .int 1), (3, .int (nI M)), (0, rf Λ 197), (1, .int (nI s)), (2, .int (nI n))]) hC dL_places_319 (by decide) rfl ?_
      refine v_iload hC dL_places_321 1 rfl ?_
      refine v_if_ge (tgt := 348) hC dL_places_323 (by decide) (fun _ => ?_) (fun h => absurd (nI_pos' (n := g) (by omega)) h)
      have J367 : V Λ κ (CC Λ X Y) 367 [(12, .int (nI (g + (1 + n)))), (11, .int (nI g)), (10, .int (nI (1 + n))), (9, .int 1), (3, .int (nI M)), (0, rf Λ 197), (1, .int (nI s)), (2, .int (nI n))] [.int (nI (cnt (fbit (fw f)) 0 (g + (1 + n))))] := by
        refine v_aload_n hC dL_places_367 5 rfl ?_
        refine v_iload_n hC dL_places_368 6 rfl ?_
        refine v_iload hC dL_places_369 1 rfl ?_
        refine v_callVr (v := .int (rankC X m (nI s) (nI g))) (C2 := CC Λ X Y) (As := [.int (nI s), .int (nI g)]) (rest := [.int (nI (cnt (fbit (fw f)) 0 (g + (1 + n))))]) hC 2 197 (c_X4_rank Λ X Y (s := nI s) (n := nI g) hm0 hm) (nR_of (by decide)) (cc_197 Λ X Y) rfl gL_places_X4_rank rfl rfl rfl hd_X4_rank ⟨by decide, by decide⟩ rfl rfl (Nat.le_of_ble_eq_true rfl) dL_places_371 ?_
        refine v_topi (y := nI (cnt (fbit (fw f)) 0 g)) (rT _ (by omega)) ?_
        refine v_isub (x := nI (cnt (fbit (fw f)) 0 (g + (1 + n)))) (y := nI (cnt (fbit (fw f)) 0 g)) hC dL_places_374 ?_
        refine v_topi (y := 0) (by rw [g2]; exact Int32.sub_self _) ?_
        refine v_istore (lv' := [(13, .int 0), (12, .int (nI (g + (1 + n)))), (11, .int (nI g)), (10, .int (nI (1 + n))), (9, .int 1), (3, .int (nI M)), (0, rf Λ 197), (1, .int (nI s)), (2, .int (nI n))]) hC dL_places_375 (by decide) rfl ?_
        refine v_iload hC dL_places_377 4 rfl ?_
        refine v_if_eq (tgt := 417) hC dL_places_379 (by decide) (fun h => absurd h (show ¬ (1 : Int32) = 0 by decide)) (fun _ => ?_)
        refine v_iload hC dL_places_382 0 rfl ?_
        refine v_if_ne (tgt := 417) hC dL_places_384 (by decide) (fun h => absurd rfl h) (fun _ => ?_)
        refine v_iload hC dL_places_387 1 rfl ?_
        refine v_sipush (v := 2048) hC dL_places_389 (by decide) ?_
        refine v_icmp_gt (tgt := 417) hC dL_places_392 (by decide) (fun h => absurd h (show ¬ 2048 < nI (g + (1 + n)) from fun z => by have := (nI_ltI (a := 2048) (by decide) (by omega)).mp z; omega)) (fun _ => ?_)
        have J413 : V Λ κ (CC Λ X Y) 413 [(0, rf Λ 197), (1, .int (nI s))] [] := by
          refine v_iconst (v := 1) hC dL_places_413 (by decide) ?_
          refine v_goto (tgt := 418) hC dL_places_414 (by decide) ?_
          exact v_zret hC hR rfl rfl rfl dL_places_418
        refine v_iload hC dL_places_395 2 rfl ?_
        refine v_if_eq (tgt := 413) hC dL_places_397 (by decide) (fun c397 => ?_) (fun c397 => ?_)
        · refine v_sub (lv' := [(0, rf Λ 197), (1, .int (nI s))]) [6, 7] rfl ?_
          exact J413
        · have g4 : g ≠ 0 := fun z => c397 (by rw [z]; rfl)
          have g5 : fbit (fw f) (g - 1) = true := g3.elim (fun z => absurd z g4) id
          refine v_aload_n hC dL_places_400 6 rfl ?_
          refine v_iload_n hC dL_places_401 7 rfl ?_
          refine v_iload hC dL_places_402 2 rfl ?_
          refine v_iconst (v := 1) hC dL_places_404 (by decide) ?_
          refine v_isub (x := nI g) (y := 1) hC dL_places_405 ?_
          refine v_topi (y := nI (g - 1)) (pk_sub (b := 1) (by omega)) ?_
          refine v_callVr (v := .int (hasC X m (nI s) (nI (g - 1)))) (C2 := CC Λ X Y) (As := [.int (nI s), .int (nI (g - 1))]) (rest := []) hC 2 197 (c_X4_has Λ X Y (s := nI s) (n := nI (g - 1)) hm0 hm) (nR_of (by decide)) (cc_197 Λ X Y) rfl gL_places_X4_has rfl rfl rfl hd_X4_has ⟨by decide, by decide⟩ rfl rfl (Nat.le_of_ble_eq_true rfl) dL_places_406 ?_
          refine v_topi (y := 1) (by rw [hT _ (by omega), g5]; rfl) ?_
          refine v_iconst (v := 1) hC dL_places_409 (by decide) ?_
          refine v_icmp_ne (tgt := 417) hC dL_places_410 (by decide) (fun h => absurd rfl h) (fun _ => ?_)
          refine v_sub (lv' := [(0, rf Λ 197), (1, .int (nI s))]) [6, 7] rfl ?_
          exact J413
      refine v_iload hC dL_places_348 0 rfl ?_
      refine v_sipush (v := 2048) hC dL_places_350 (by decide) ?_
      refine v_icmp_ge (tgt := 366) hC dL_places_353 (by decide) (fun c353 => ?_) (fun c353 => ?_)
      · have g353 : 2048 ≤ g + (1 + n) := (nI_leI (a := 2048) (by decide) (by omega)).mp c353
        refine v_iload_n hC dL_places_366 4 rfl ?_
        refine v_topi (y := nI (cnt (fbit (fw f)) 0 (g + (1 + n)))) (by rw [← hM, show g + (1 + n) = 2048 by omega]) ?_
        exact J367
      · have g353 : g + (1 + n) < 2048 := Nat.lt_of_not_le (fun z => c353 ((nI_leI (a := 2048) (by decide) (by omega)).mpr z))
        refine v_aload_n hC dL_places_356 5 rfl ?_
        refine v_iload_n hC dL_places_357 6 rfl ?_
        refine v_iload hC dL_places_358 0 rfl ?_
        refine v_callVr (v := .int (rankC X m (nI s) (nI (g + (1 + n))))) (C2 := CC Λ X Y) (As := [.int (nI s), .int (nI (g + (1 + n)))]) (rest := []) hC 2 197 (c_X4_rank Λ X Y (s := nI s) (n := nI (g + (1 + n))) hm0 hm) (nR_of (by decide)) (cc_197 Λ X Y) rfl gL_places_X4_rank rfl rfl rfl hd_X4_rank ⟨by decide, by decide⟩ rfl rfl (Nat.le_of_ble_eq_true rfl) dL_places_360 ?_
        refine v_topi (y := nI (cnt (fbit (fw f)) 0 (g + (1 + n)))) (rT _ g353) ?_
        refine v_goto (tgt := 367) hC dL_places_363 (by decide) ?_
        exact J367
  have J205 : V Λ κ (CC Λ X Y) 205 [(3, .int (nI M)), (0, rf Λ 197), (1, .int (nI s)), (2, .int (nI n))] [.int 1] := by
    refine v_istore (lv' := [(9, .int 1), (3, .int (nI M)), (0, rf Λ 197), (1, .int (nI s)), (2, .int (nI n))]) hC dL_places_205 (by decide) rfl ?_
    refine v_iload hC dL_places_207 0 rfl ?_
    refine v_if_eq (tgt := 297) hC dL_places_209 (by decide) (fun h => absurd h (show ¬ (1 : Int32) = 0 by decide)) (fun _ => ?_)
    refine v_iload_n hC dL_places_212 1 rfl ?_
    refine v_if_ne (tgt := 243) hC dL_places_213 (by decide) (fun c213 => ?_) (fun c213 => ?_)
    · have m0 : 0 < M := Nat.pos_of_ne_zero (fun z => c213 (by rw [z]; rfl))
      have m1 : ¬ nI M - 1 < 0 := by rw [show nI M - 1 = nI (M - 1) from pk_sub (b := 1) m0]; exact nI_pos (by omega)
      refine v_aload_n hC dL_places_243 2 rfl ?_
      refine v_iload_n hC dL_places_244 3 rfl ?_
      refine v_bipush (v := 7) hC dL_places_245 (by decide) ?_
      refine v_callVr (v := .int (setC X m (nI s) 7)) (C2 := CC Λ X Y) (As := [.int (nI s), .int 7]) (rest := []) hC 2 197 (c_X4_set Λ X Y (s := nI s) (v := 7) hm0 hm) (nR_of (by decide)) (cc_197 Λ X Y) rfl gL_places_X4_set rfl rfl rfl hd_X4_set ⟨by decide, by decide⟩ rfl rfl (Nat.le_of_ble_eq_true rfl) dL_places_247 ?_
      refine v_topi (y := atI (fw f) 0) (by rw [sT, se_7]) ?_
      refine v_aload_n hC dL_places_250 2 rfl ?_
      refine v_iload_n hC dL_places_251 3 rfl ?_
      refine v_iconst (v := 0) hC dL_places_252 (by decide) ?_
      refine v_callVr (v := .int (placeC X m (nI s) 0)) (C2 := CC Λ X Y) (As := [.int (nI s), .int 0]) (rest := [.int (atI (fw f) 0)]) hC 2 197 (c_X4_at Λ X Y (s := nI s) (n := 0) hm0 hm) (nR_of (by decide)) (cc_197 Λ X Y) rfl gL_places_X4_at rfl rfl rfl hd_X4_at ⟨by decide, by decide⟩ rfl rfl (Nat.le_of_ble_eq_true rfl) dL_places_253 ?_
      refine v_topi (y := atI (fw f) 0) (pT 0 (by decide)) ?_
      refine v_icmp_ne (tgt := 297) hC dL_places_256 (by decide) (fun h => absurd rfl h) (fun _ => ?_)
      refine v_aload_n hC dL_places_259 2 rfl ?_
      refine v_iload_n hC dL_places_260 3 rfl ?_
      refine v_bipush (v := 8) hC dL_places_261 (by decide) ?_
      refine v_callVr (v := .int (setC X m (nI s) 8)) (C2 := CC Λ X Y) (As := [.int (nI s), .int 8]) (rest := []) hC 2 197 (c_X4_set Λ X Y (s := nI s) (v := 8) hm0 hm) (nR_of (by decide)) (cc_197 Λ X Y) rfl gL_places_X4_set rfl rfl rfl hd_X4_set ⟨by decide, by decide⟩ rfl rfl (Nat.le_of_ble_eq_true rfl) dL_places_263 ?_
      refine v_topi (y := atI (fw f) (nI M - 1)) (by rw [sT, se_8, sM]) ?_
      refine v_aload_n hC dL_places_266 2 rfl ?_
      refine v_iload_n hC dL_places_267 3 rfl ?_
      refine v_iload_n hC dL_places_268 1 rfl ?_
      refine v_iconst (v := 1) hC dL_places_269 (by decide) ?_
      refine v_isub (x := nI M) (y := 1) hC dL_places_270 ?_
      refine v_callVr (v := .int (placeC X m (nI s) ((nI M) - 1))) (C2 := CC Λ X Y) (As := [.int (nI s), .int ((nI M) - 1)]) (rest := [.int (atI (fw f) (nI M - 1))]) hC 2 197 (c_X4_at Λ X Y (s := nI s) (n := (nI M) - 1) hm0 hm) (nR_of (by decide)) (cc_197 Λ X Y) rfl gL_places_X4_at rfl rfl rfl hd_X4_at ⟨by decide, by decide⟩ rfl rfl (Nat.le_of_ble_eq_true rfl) dL_places_271 ?_
      refine v_topi (y := atI (fw f) (nI M - 1)) (pT _ m1) ?_
      refine v_icmp_ne (tgt := 297) hC dL_places_274 (by decide) (fun h => absurd rfl h) (fun _ => ?_)
      refine v_aload_n hC dL_places_277 2 rfl ?_
      refine v_iload_n hC dL_places_278 3 rfl ?_
      refine v_iconst (v := 0) hC dL_places_279 (by decide) ?_
      refine v_callVr (v := .int (nextC X m (nI s) 0)) (C2 := CC Λ X Y) (As := [.int (nI s), .int 0]) (rest := []) hC 2 197 (c_X4_next Λ X Y (s := nI s) (n := 0) hm0 hm) (nR_of (by decide)) (cc_197 Λ X Y) rfl gL_places_X4_next rfl rfl rfl hd_X4_next ⟨by decide, by decide⟩ rfl rfl (Nat.le_of_ble_eq_true rfl) dL_places_280 ?_
      refine v_topi (y := atI (fw f) 0) (xT 0 (by decide)) ?_
      refine v_aload_n hC dL_places_283 2 rfl ?_
      refine v_iload_n hC dL_places_284 3 rfl ?_
      refine v_bipush (v := 7) hC dL_places_285 (by decide) ?_
      refine v_callVr (v := .int (setC X m (nI s) 7)) (C2 := CC Λ X Y) (As := [.int (nI s), .int 7]) (rest := [.int (atI (fw f) 0)]) hC 2 197 (c_X4_set Λ X Y (s := nI s) (v := 7) hm0 hm) (nR_of (by decide)) (cc_197 Λ X Y) rfl gL_places_X4_set rfl rfl rfl hd_X4_set ⟨by decide, by decide⟩ rfl rfl (Nat.le_of_ble_eq_true rfl) dL_places_287 ?_
      refine v_topi (y := atI (fw f) 0) (by rw [sT, se_7]) ?_
      refine v_icmp_ne (tgt := 297) hC dL_places_290 (by decide) (fun h => absurd rfl h) (fun _ => ?_)
      refine v_iconst (v := 1) hC dL_places_293 (by decide) ?_
      refine v_goto (tgt := 298) hC dL_places_294 (by decide) ?_
      refine v_sub (lv' := [(3, .int (nI M)), (0, rf Λ 197), (1, .int (nI s)), (2, .int (nI n))]) [1, 2, 3, 4] rfl ?_
      exact J298
    · have m0 : M = 0 := (nI_z (by omega)).mp c213
      refine v_aload_n hC dL_places_216 2 rfl ?_
      refine v_iload_n hC dL_places_217 3 rfl ?_
      refine v_bipush (v := 7) hC dL_places_218 (by decide) ?_
      refine v_callVr (v := .int (setC X m (nI s) 7)) (C2 := CC Λ X Y) (As := [.int (nI s), .int 7]) (rest := []) hC 2 197 (c_X4_set Λ X Y (s := nI s) (v := 7) hm0 hm) (nR_of (by decide)) (cc_197 Λ X Y) rfl gL_places_X4_set rfl rfl rfl hd_X4_set ⟨by decide, by decide⟩ rfl rfl (Nat.le_of_ble_eq_true rfl) dL_places_220 ?_
      refine v_topi (y := (-5)) (by rw [sT, se_7]; rw [m0] at aE; exact aE) ?_
      refine v_bipush (v := (-5)) hC dL_places_223 (by decide) ?_
      refine v_icmp_ne (tgt := 297) hC dL_places_225 (by decide) (fun h => absurd rfl h) (fun _ => ?_)
      refine v_aload_n hC dL_places_228 2 rfl ?_
      refine v_iload_n hC dL_places_229 3 rfl ?_
      refine v_bipush (v := 8) hC dL_places_230 (by decide) ?_
      refine v_callVr (v := .int (setC X m (nI s) 8)) (C2 := CC Λ X Y) (As := [.int (nI s), .int 8]) (rest := []) hC 2 197 (c_X4_set Λ X Y (s := nI s) (v := 8) hm0 hm) (nR_of (by decide)) (cc_197 Λ X Y) rfl gL_places_X4_set rfl rfl rfl hd_X4_set ⟨by decide, by decide⟩ rfl rfl (Nat.le_of_ble_eq_true rfl) dL_places_232 ?_
      refine v_topi (y := (-5)) (by rw [sT, se_8, sM, m0]; exact at_neg (by decide)) ?_
      refine v_bipush (v := (-5)) hC dL_places_235 (by decide) ?_
      refine v_icmp_ne (tgt := 297) hC dL_places_237 (by decide) (fun h => absurd rfl h) (fun _ => ?_)
      refine v_goto (tgt := 293) hC dL_places_240 (by decide) ?_
      refine v_iconst (v := 1) hC dL_places_293 (by decide) ?_
      refine v_goto (tgt := 298) hC dL_places_294 (by decide) ?_
      refine v_sub (lv' := [(3, .int (nI M)), (0, rf Λ 197), (1, .int (nI s)), (2, .int (nI n))]) [1, 2, 3, 4] rfl ?_
      exact J298
  rcases nx with ⟨n0, n1, n2⟩ | ⟨x, x1, x2, x3, x4, n0, x5⟩
  · rcases be with ⟨b0, b1⟩ | ⟨y, y1, y2, b0, b1⟩
    · refine v_aload_n hC dL_places_0 0 rfl ?_
      refine v_iload_n hC dL_places_1 1 rfl ?_
      refine v_iconst (v := 0) hC dL_places_2 (by decide) ?_
      refine v_callVr (v := .int (setC X m (nI s) 0)) (C2 := CC Λ X Y) (As := [.int (nI s), .int 0]) (rest := []) hC 2 197 (c_X4_set Λ X Y (s := nI s) (v := 0) hm0 hm) (nR_of (by decide)) (cc_197 Λ X Y) rfl gL_places_X4_set rfl rfl rfl hd_X4_set ⟨by decide, by decide⟩ rfl rfl (Nat.le_of_ble_eq_true rfl) dL_places_3 ?_
      refine v_topi (y := nI M) (by rw [sT, se_0, sM]) ?_
      refine v_istore_n (lv' := [(3, .int (nI M)), (0, rf Λ 197), (1, .int (nI s)), (2, .int (nI n))]) hC dL_places_6 (by decide) rfl ?_
      refine v_aload_n hC dL_places_7 1 rfl ?_
      refine v_iload_n hC dL_places_8 2 rfl ?_
      refine v_iload_n hC dL_places_9 3 rfl ?_
      refine v_callVr (v := .int (rankC X m (nI s) (nI n))) (C2 := CC Λ X Y) (As := [.int (nI s), .int (nI n)]) (rest := []) hC 2 197 (c_X4_rank Λ X Y (s := nI s) (n := nI n) hm0 hm) (nR_of (by decide)) (cc_197 Λ X Y) rfl gL_places_X4_rank rfl rfl rfl hd_X4_rank ⟨by decide, by decide⟩ rfl rfl (Nat.le_of_ble_eq_true rfl) dL_places_10 ?_
      refine v_topi (y := nI R) (by rw [rT _ hn, hR0]) ?_
      refine v_istore (lv' := [(4, .int (nI R)), (3, .int (nI M)), (0, rf Λ 197), (1, .int (nI s)), (2, .int (nI n))]) hC dL_places_13 (by decide) rfl ?_
      refine v_aload_n hC dL_places_15 2 rfl ?_
      refine v_iload_n hC dL_places_16 3 rfl ?_
      refine v_iload_n hC dL_places_17 4 rfl ?_
      refine v_callVr (v := .int (nextC X m (nI s) (nI n))) (C2 := CC Λ X Y) (As := [.int (nI s), .int (nI n)]) (rest := []) hC 2 197 (c_X4_next Λ X Y (s := nI s) (n := nI n) hm0 hm) (nR_of (by decide)) (cc_197 Λ X Y) rfl gL_places_X4_next rfl rfl rfl hd_X4_next ⟨by decide, by decide⟩ rfl rfl (Nat.le_of_ble_eq_true rfl) dL_places_18 ?_
      refine v_topi (y := (-5)) (by rw [xT _ hn, hR0, n0]) ?_
      refine v_istore (lv' := [(5, .int (-5)), (4, .int (nI R)), (3, .int (nI M)), (0, rf Λ 197), (1, .int (nI s)), (2, .int (nI n))]) hC dL_places_21 (by decide) rfl ?_
      refine v_iload hC dL_places_23 1 rfl ?_
      refine v_if_le (tgt := 40) hC dL_places_25 (by decide) (fun _ => ?_) (fun h => absurd (show nI R ≤ 0 by rw [b1]; decide) h)
      refine v_bipush (v := (-5)) hC dL_places_40 (by decide) ?_
      refine v_istore (lv' := [(6, .int (-5)), (5, .int (-5)), (4, .int (nI R)), (3, .int (nI M)), (0, rf Λ 197), (1, .int (nI s)), (2, .int (nI n))]) hC dL_places_42 (by decide) rfl ?_
      refine v_aload_n hC dL_places_44 4 rfl ?_
      refine v_iload_n hC dL_places_45 5 rfl ?_
      refine v_iload_n hC dL_places_46 6 rfl ?_
      refine v_callVr (v := .int (nearC X m (nI s) (nI n))) (C2 := CC Λ X Y) (As := [.int (nI s), .int (nI n)]) (rest := []) hC 2 197 (c_X4_nearest Λ X Y (s := nI s) (n := nI n) hm0 hm) (nR_of (by decide)) (cc_197 Λ X Y) rfl gL_places_X4_nearest rfl rfl rfl hd_X4_nearest ⟨by decide, by decide⟩ rfl rfl (Nat.le_of_ble_eq_true rfl) dL_places_47 ?_
      refine v_topi (y := (-5)) ((nT (-5) ((-5)) b0 n0).trans (if_pos rfl)) ?_
      refine v_istore (lv' := [(7, .int (-5)), (6, .int (-5)), (5, .int (-5)), (4, .int (nI R)), (3, .int (nI M)), (0, rf Λ 197), (1, .int (nI s)), (2, .int (nI n))]) hC dL_places_50 (by decide) rfl ?_
      refine v_iload hC dL_places_52 1 rfl ?_
      refine v_if_ge (tgt := 62) hC dL_places_54 (by decide) (fun h => absurd h (show ¬ (0 : Int32) ≤ -5 by decide)) (fun _ => ?_)
      refine v_iload hC dL_places_57 2 rfl ?_
      refine v_goto (tgt := 90) hC dL_places_59 (by decide) ?_
      refine v_istore (lv' := [(8, .int (-5)), (7, .int (-5)), (6, .int (-5)), (5, .int (-5)), (4, .int (nI R)), (3, .int (nI M)), (0, rf Λ 197), (1, .int (nI s)), (2, .int (nI n))]) hC dL_places_90 (by decide) rfl ?_
      refine v_aload_n hC dL_places_92 6 rfl ?_
      refine v_iload_n hC dL_places_93 7 rfl ?_
      refine v_iload hC dL_places_94 4 rfl ?_
      refine v_callVr (v := .int (placeC X m (nI s) (nI R))) (C2 := CC Λ X Y) (As := [.int (nI s), .int (nI R)]) (rest := []) hC 2 197 (c_X4_at Λ X Y (s := nI s) (n := nI R) hm0 hm) (nR_of (by decide)) (cc_197 Λ X Y) rfl gL_places_X4_at rfl rfl rfl hd_X4_at ⟨by decide, by decide⟩ rfl rfl (Nat.le_of_ble_eq_true rfl) dL_places_96 ?_
      refine v_topi (y := (-5)) (by rw [pT _ (nI_pos (by omega)), n0]) ?_
      refine v_iload hC dL_places_99 3 rfl ?_
      refine v_icmp_ne (tgt := 204) hC dL_places_101 (by decide) (fun h => absurd rfl h) (fun _ => ?_)
      refine v_iload hC dL_places_104 2 rfl ?_
      refine v_iload_n hC dL_places_106 8 rfl ?_
      refine v_icmp_ge (tgt := 204) hC dL_places_107 (by decide) (fun h => absurd h (show ¬ nI n ≤ -5 from fun z => absurd (Int32.le_trans (nI_pos' (n := n) (by omega)) z) (by decide))) (fun _ => ?_)
      refine v_iload hC dL_places_110 3 rfl ?_
      refine v_if_ge (tgt := 124) hC dL_places_112 (by decide) (fun h => absurd h (show ¬ (0 : Int32) ≤ -5 by decide)) (fun _ => ?_)
      refine v_iload hC dL_places_115 4 rfl ?_
      refine v_iload_n hC dL_places_117 5 rfl ?_
      refine v_icmp_ne (tgt := 204) hC dL_places_118 (by decide) (fun h => absurd (congrArg nI n1) h) (fun _ => ?_)
      refine v_goto (tgt := 153) hC dL_places_121 (by decide) ?_
      refine v_aload_n hC dL_places_153 6 rfl ?_
      refine v_iload_n hC dL_places_154 7 rfl ?_
      refine v_iload_n hC dL_places_155 8 rfl ?_
      refine v_callVr (v := .int (hasC X m (nI s) (nI n))) (C2 := CC Λ X Y) (As := [.int (nI s), .int (nI n)]) (rest := []) hC 2 197 (c_X4_has Λ X Y (s := nI s) (n := nI n) hm0 hm) (nR_of (by decide)) (cc_197 Λ X Y) rfl gL_places_X4_has rfl rfl rfl hd_X4_has ⟨by decide, by decide⟩ rfl rfl (Nat.le_of_ble_eq_true rfl) dL_places_156 ?_
      refine v_topi (y := 0) (by rw [hT _ hn, n2]; rfl) ?_
      refine v_iconst (v := 1) hC dL_places_159 (by decide) ?_
      refine v_icmp_ne (tgt := 167) hC dL_places_160 (by decide) (fun _ => ?_) (fun h => absurd h (show ¬ (0 : Int32) = 1 by decide))
      refine v_iconst (v := 0) hC dL_places_167 (by decide) ?_
      refine v_iload hC dL_places_168 3 rfl ?_
      refine v_iload_n hC dL_places_170 8 rfl ?_
      refine v_icmp_ne (tgt := 178) hC dL_places_171 (by decide) (fun _ => ?_) (fun h => absurd h (show ¬ -5 = nI n from fun z => nI_m5 (by omega) z.symm))
      refine v_iconst (v := 0) hC dL_places_178 (by decide) ?_
      refine v_icmp_ne (tgt := 204) hC dL_places_179 (by decide) (fun h => absurd rfl h) (fun _ => ?_)
      refine v_iload hC dL_places_182 1 rfl ?_
      refine v_iload hC dL_places_184 0 rfl ?_
      refine v_icmp_ne (tgt := 204) hC dL_places_186 (by decide) (fun h => absurd rfl h) (fun _ => ?_)
      refine v_aload_n hC dL_places_189 6 rfl ?_
      refine v_iload_n hC dL_places_190 7 rfl ?_
      refine v_iload_n hC dL_places_191 5 rfl ?_
      refine v_callVr (v := .int (placeC X m (nI s) (nI M))) (C2 := CC Λ X Y) (As := [.int (nI s), .int (nI M)]) (rest := []) hC 2 197 (c_X4_at Λ X Y (s := nI s) (n := nI M) hm0 hm) (nR_of (by decide)) (cc_197 Λ X Y) rfl gL_places_X4_at rfl rfl rfl hd_X4_at ⟨by decide, by decide⟩ rfl rfl (Nat.le_of_ble_eq_true rfl) dL_places_192 ?_
      refine v_topi (y := (-5)) (by rw [pT _ (nI_pos (by omega)), aE]) ?_
      refine v_bipush (v := (-5)) hC dL_places_195 (by decide) ?_
      refine v_icmp_ne (tgt := 204) hC dL_places_197 (by decide) (fun h => absurd rfl h) (fun _ => ?_)
      refine v_iconst (v := 1) hC dL_places_200 (by decide) ?_
      refine v_goto (tgt := 205) hC dL_places_201 (by decide) ?_
      refine v_sub (lv' := [(3, .int (nI M)), (0, rf Λ 197), (1, .int (nI s)), (2, .int (nI n))]) [5, 6, 7, 8] rfl ?_
      exact J205
    · refine v_aload_n hC dL_places_0 0 rfl ?_
      refine v_iload_n hC dL_places_1 1 rfl ?_
      refine v_iconst (v := 0) hC dL_places_2 (by decide) ?_
      refine v_callVr (v := .int (setC X m (nI s) 0)) (C2 := CC Λ X Y) (As := [.int (nI s), .int 0]) (rest := []) hC 2 197 (c_X4_set Λ X Y (s := nI s) (v := 0) hm0 hm) (nR_of (by decide)) (cc_197 Λ X Y) rfl gL_places_X4_set rfl rfl rfl hd_X4_set ⟨by decide, by decide⟩ rfl rfl (Nat.le_of_ble_eq_true rfl) dL_places_3 ?_
      refine v_topi (y := nI M) (by rw [sT, se_0, sM]) ?_
      refine v_istore_n (lv' := [(3, .int (nI M)), (0, rf Λ 197), (1, .int (nI s)), (2, .int (nI n))]) hC dL_places_6 (by decide) rfl ?_
      refine v_aload_n hC dL_places_7 1 rfl ?_
      refine v_iload_n hC dL_places_8 2 rfl ?_
      refine v_iload_n hC dL_places_9 3 rfl ?_
      refine v_callVr (v := .int (rankC X m (nI s) (nI n))) (C2 := CC Λ X Y) (As := [.int (nI s), .int (nI n)]) (rest := []) hC 2 197 (c_X4_rank Λ X Y (s := nI s) (n := nI n) hm0 hm) (nR_of (by decide)) (cc_197 Λ X Y) rfl gL_places_X4_rank rfl rfl rfl hd_X4_rank ⟨by decide, by decide⟩ rfl rfl (Nat.le_of_ble_eq_true rfl) dL_places_10 ?_
      refine v_topi (y := nI R) (by rw [rT _ hn, hR0]) ?_
      refine v_istore (lv' := [(4, .int (nI R)), (3, .int (nI M)), (0, rf Λ 197), (1, .int (nI s)), (2, .int (nI n))]) hC dL_places_13 (by decide) rfl ?_
      refine v_aload_n hC dL_places_15 2 rfl ?_
      refine v_iload_n hC dL_places_16 3 rfl ?_
      refine v_iload_n hC dL_places_17 4 rfl ?_
      refine v_callVr (v := .int (nextC X m (nI s) (nI n))) (C2 := CC Λ X Y) (As := [.int (nI s), .int (nI n)]) (rest := []) hC 2 197 (c_X4_next Λ X Y (s := nI s) (n := nI n) hm0 hm) (nR_of (by decide)) (cc_197 Λ X Y) rfl gL_places_X4_next rfl rfl rfl hd_X4_next ⟨by decide, by decide⟩ rfl rfl (Nat.le_of_ble_eq_true rfl) dL_places_18 ?_
      refine v_topi (y := (-5)) (by rw [xT _ hn, hR0, n0]) ?_
      refine v_istore (lv' := [(5, .int (-5)), (4, .int (nI R)), (3, .int (nI M)), (0, rf Λ 197), (1, .int (nI s)), (2, .int (nI n))]) hC dL_places_21 (by decide) rfl ?_
      refine v_iload hC dL_places_23 1 rfl ?_
      refine v_if_le (tgt := 40) hC dL_places_25 (by decide) (fun h => absurd h (nI_nle b1 (by omega))) (fun _ => ?_)
      refine v_aload_n hC dL_places_28 3 rfl ?_
      refine v_iload_n hC dL_places_29 4 rfl ?_
      refine v_iload hC dL_places_30 1 rfl ?_
      refine v_iconst (v := 1) hC dL_places_32 (by decide) ?_
      refine v_isub (x := nI R) (y := 1) hC dL_places_33 ?_
      refine v_callVr (v := .int (placeC X m (nI s) ((nI R) - 1))) (C2 := CC Λ X Y) (As := [.int (nI s), .int ((nI R) - 1)]) (rest := []) hC 2 197 (c_X4_at Λ X Y (s := nI s) (n := (nI R) - 1) hm0 hm) (nR_of (by decide)) (cc_197 Λ X Y) rfl gL_places_X4_at rfl rfl rfl hd_X4_at ⟨by decide, by decide⟩ rfl rfl (Nat.le_of_ble_eq_true rfl) dL_places_34 ?_
      refine v_topi (y := nI y) (by rw [pT _ (by rw [show nI R - 1 = nI (R - 1) from pk_sub (b := 1) b1]; exact nI_pos (by omega)), b0]) ?_
      refine v_goto (tgt := 42) hC dL_places_37 (by decide) ?_
      refine v_istore (lv' := [(6, .int (nI y)), (5, .int (-5)), (4, .int (nI R)), (3, .int (nI M)), (0, rf Λ 197), (1, .int (nI s)), (2, .int (nI n))]) hC dL_places_42 (by decide) rfl ?_
      refine v_aload_n hC dL_places_44 4 rfl ?_
      refine v_iload_n hC dL_places_45 5 rfl ?_
      refine v_iload_n hC dL_places_46 6 rfl ?_
      refine v_callVr (v := .int (nearC X m (nI s) (nI n))) (C2 := CC Λ X Y) (As := [.int (nI s), .int (nI n)]) (rest := []) hC 2 197 (c_X4_nearest Λ X Y (s := nI s) (n := nI n) hm0 hm) (nR_of (by decide)) (cc_197 Λ X Y) rfl gL_places_X4_nearest rfl rfl rfl hd_X4_nearest ⟨by decide, by decide⟩ rfl rfl (Nat.le_of_ble_eq_true rfl) dL_places_47 ?_
      refine v_topi (y := nI y) ((nT (nI y) (-5) b0 n0).trans ((if_neg (show ¬ nI y = -5 from nI_m5 (by omega))).trans (if_pos rfl))) ?_
      refine v_istore (lv' := [(7, .int (nI y)), (6, .int (nI y)), (5, .int (-5)), (4, .int (nI R)), (3, .int (nI M)), (0, rf Λ 197), (1, .int (nI s)), (2, .int (nI n))]) hC dL_places_50 (by decide) rfl ?_
      refine v_iload hC dL_places_52 1 rfl ?_
      refine v_if_ge (tgt := 62) hC dL_places_54 (by decide) (fun _ => ?_) (fun h => absurd (nI_pos' (n := y) (by omega)) h)
      refine v_iload hC dL_places_62 2 rfl ?_
      refine v_if_ge (tgt := 72) hC dL_places_64 (by decide) (fun h => absurd h (show ¬ (0 : Int32) ≤ -5 by decide)) (fun _ => ?_)
      refine v_iload hC dL_places_67 1 rfl ?_
      refine v_goto (tgt := 90) hC dL_places_69 (by decide) ?_
      refine v_istore (lv' := [(8, .int (nI y)), (7, .int (nI y)), (6, .int (nI y)), (5, .int (-5)), (4, .int (nI R)), (3, .int (nI M)), (0, rf Λ 197), (1, .int (nI s)), (2, .int (nI n))]) hC dL_places_90 (by decide) rfl ?_
      refine v_aload_n hC dL_places_92 6 rfl ?_
      refine v_iload_n hC dL_places_93 7 rfl ?_
      refine v_iload hC dL_places_94 4 rfl ?_
      refine v_callVr (v := .int (placeC X m (nI s) (nI R))) (C2 := CC Λ X Y) (As := [.int (nI s), .int (nI R)]) (rest := []) hC 2 197 (c_X4_at Λ X Y (s := nI s) (n := nI R) hm0 hm) (nR_of (by decide)) (cc_197 Λ X Y) rfl gL_places_X4_at rfl rfl rfl hd_X4_at ⟨by decide, by decide⟩ rfl rfl (Nat.le_of_ble_eq_true rfl) dL_places_96 ?_
      refine v_topi (y := (-5)) (by rw [pT _ (nI_pos (by omega)), n0]) ?_
      refine v_iload hC dL_places_99 3 rfl ?_
      refine v_icmp_ne (tgt := 204) hC dL_places_101 (by decide) (fun h => absurd rfl h) (fun _ => ?_)
      refine v_iload hC dL_places_104 2 rfl ?_
      refine v_iload_n hC dL_places_106 8 rfl ?_
      refine v_icmp_ge (tgt := 204) hC dL_places_107 (by decide) (fun h => absurd h (show ¬ nI n ≤ nI y from fun z => by have := (nI_leI (by omega) (by omega)).mp z; omega)) (fun _ => ?_)
      refine v_iload hC dL_places_110 3 rfl ?_
      refine v_if_ge (tgt := 124) hC dL_places_112 (by decide) (fun h => absurd h (show ¬ (0 : Int32) ≤ -5 by decide)) (fun _ => ?_)
      refine v_iload hC dL_places_115 4 rfl ?_
      refine v_iload_n hC dL_places_117 5 rfl ?_
      refine v_icmp_ne (tgt := 204) hC dL_places_118 (by decide) (fun h => absurd (congrArg nI n1) h) (fun _ => ?_)
      refine v_goto (tgt := 153) hC dL_places_121 (by decide) ?_
      refine v_aload_n hC dL_places_153 6 rfl ?_
      refine v_iload_n hC dL_places_154 7 rfl ?_
      refine v_iload_n hC dL_places_155 8 rfl ?_
      refine v_callVr (v := .int (hasC X m (nI s) (nI n))) (C2 := CC Λ X Y) (As := [.int (nI s), .int (nI n)]) (rest := []) hC 2 197 (c_X4_has Λ X Y (s := nI s) (n := nI n) hm0 hm) (nR_of (by decide)) (cc_197 Λ X Y) rfl gL_places_X4_has rfl rfl rfl hd_X4_has ⟨by decide, by decide⟩ rfl rfl (Nat.le_of_ble_eq_true rfl) dL_places_156 ?_
      refine v_topi (y := 0) (by rw [hT _ hn, n2]; rfl) ?_
      refine v_iconst (v := 1) hC dL_places_159 (by decide) ?_
      refine v_icmp_ne (tgt := 167) hC dL_places_160 (by decide) (fun _ => ?_) (fun h => absurd h (show ¬ (0 : Int32) = 1 by decide))
      refine v_iconst (v := 0) hC dL_places_167 (by decide) ?_
      refine v_iload hC dL_places_168 3 rfl ?_
      refine v_iload_n hC dL_places_170 8 rfl ?_
      refine v_icmp_ne (tgt := 178) hC dL_places_171 (by decide) (fun _ => ?_) (fun h => absurd h (show ¬ -5 = nI n from fun z => nI_m5 (by omega) z.symm))
      refine v_iconst (v := 0) hC dL_places_178 (by decide) ?_
      refine v_icmp_ne (tgt := 204) hC dL_places_179 (by decide) (fun h => absurd rfl h) (fun _ => ?_)
      refine v_iload hC dL_places_182 1 rfl ?_
      refine v_iload hC dL_places_184 0 rfl ?_
      refine v_icmp_ne (tgt := 204) hC dL_places_186 (by decide) (fun h => absurd rfl h) (fun _ => ?_)
      refine v_aload_n hC dL_places_189 6 rfl ?_
      refine v_iload_n hC dL_places_190 7 rfl ?_
      refine v_iload_n hC dL_places_191 5 rfl ?_
      refine v_callVr (v := .int (placeC X m (nI s) (nI M))) (C2 := CC Λ X Y) (As := [.int (nI s), .int (nI M)]) (rest := []) hC 2 197 (c_X4_at Λ X Y (s := nI s) (n := nI M) hm0 hm) (nR_of (by decide)) (cc_197 Λ X Y) rfl gL_places_X4_at rfl rfl rfl hd_X4_at ⟨by decide, by decide⟩ rfl rfl (Nat.le_of_ble_eq_true rfl) dL_places_192 ?_
      refine v_topi (y := (-5)) (by rw [pT _ (nI_pos (by omega)), aE]) ?_
      refine v_bipush (v := (-5)) hC dL_places_195 (by decide) ?_
      refine v_icmp_ne (tgt := 204) hC dL_places_197 (by decide) (fun h => absurd rfl h) (fun _ => ?_)
      refine v_iconst (v := 1) hC dL_places_200 (by decide) ?_
      refine v_goto (tgt := 205) hC dL_places_201 (by decide) ?_
      refine v_sub (lv' := [(3, .int (nI M)), (0, rf Λ 197), (1, .int (nI s)), (2, .int (nI n))]) [5, 6, 7, 8] rfl ?_
      exact J205
  · rcases be with ⟨b0, b1⟩ | ⟨y, y1, y2, b0, b1⟩
    · refine v_aload_n hC dL_places_0 0 rfl ?_
      refine v_iload_n hC dL_places_1 1 rfl ?_
      refine v_iconst (v := 0) hC dL_places_2 (by decide) ?_
      refine v_callVr (v := .int (setC X m (nI s) 0)) (C2 := CC Λ X Y) (As := [.int (nI s), .int 0]) (rest := []) hC 2 197 (c_X4_set Λ X Y (s := nI s) (v := 0) hm0 hm) (nR_of (by decide)) (cc_197 Λ X Y) rfl gL_places_X4_set rfl rfl rfl hd_X4_set ⟨by decide, by decide⟩ rfl rfl (Nat.le_of_ble_eq_true rfl) dL_places_3 ?_
      refine v_topi (y := nI M) (by rw [sT, se_0, sM]) ?_
      refine v_istore_n (lv' := [(3, .int (nI M)), (0, rf Λ 197), (1, .int (nI s)), (2, .int (nI n))]) hC dL_places_6 (by decide) rfl ?_
      refine v_aload_n hC dL_places_7 1 rfl ?_
      refine v_iload_n hC dL_places_8 2 rfl ?_
      refine v_iload_n hC dL_places_9 3 rfl ?_
      refine v_callVr (v := .int (rankC X m (nI s) (nI n))) (C2 := CC Λ X Y) (As := [.int (nI s), .int (nI n)]) (rest := []) hC 2 197 (c_X4_rank Λ X Y (s := nI s) (n := nI n) hm0 hm) (nR_of (by decide)) (cc_197 Λ X Y) rfl gL_places_X4_rank rfl rfl rfl hd_X4_rank ⟨by decide, by decide⟩ rfl rfl (Nat.le_of_ble_eq_true rfl) dL_places_10 ?_
      refine v_topi (y := nI R) (by rw [rT _ hn, hR0]) ?_
      refine v_istore (lv' := [(4, .int (nI R)), (3, .int (nI M)), (0, rf Λ 197), (1, .int (nI s)), (2, .int (nI n))]) hC dL_places_13 (by decide) rfl ?_
      refine v_aload_n hC dL_places_15 2 rfl ?_
      refine v_iload_n hC dL_places_16 3 rfl ?_
      refine v_iload_n hC dL_places_17 4 rfl ?_
      refine v_callVr (v := .int (nextC X m (nI s) (nI n))) (C2 := CC Λ X Y) (As := [.int (nI s), .int (nI n)]) (rest := []) hC 2 197 (c_X4_next Λ X Y (s := nI s) (n := nI n) hm0 hm) (nR_of (by decide)) (cc_197 Λ X Y) rfl gL_places_X4_next rfl rfl rfl hd_X4_next ⟨by decide, by decide⟩ rfl rfl (Nat.le_of_ble_eq_true rfl) dL_places_18 ?_
      refine v_topi (y := nI x) (by rw [xT _ hn, hR0, n0]) ?_
      refine v_istore (lv' := [(5, .int (nI x)), (4, .int (nI R)), (3, .int (nI M)), (0, rf Λ 197), (1, .int (nI s)), (2, .int (nI n))]) hC dL_places_21 (by decide) rfl ?_
      refine v_iload hC dL_places_23 1 rfl ?_
      refine v_if_le (tgt := 40) hC dL_places_25 (by decide) (fun _ => ?_) (fun h => absurd (show nI R ≤ 0 by rw [b1]; decide) h)
      refine v_bipush (v := (-5)) hC dL_places_40 (by decide) ?_
      refine v_istore (lv' := [(6, .int (-5)), (5, .int (nI x)), (4, .int (nI R)), (3, .int (nI M)), (0, rf Λ 197), (1, .int (nI s)), (2, .int (nI n))]) hC dL_places_42 (by decide) rfl ?_
      refine v_aload_n hC dL_places_44 4 rfl ?_
      refine v_iload_n hC dL_places_45 5 rfl ?_
      refine v_iload_n hC dL_places_46 6 rfl ?_
      refine v_callVr (v := .int (nearC X m (nI s) (nI n))) (C2 := CC Λ X Y) (As := [.int (nI s), .int (nI n)]) (rest := []) hC 2 197 (c_X4_nearest Λ X Y (s := nI s) (n := nI n) hm0 hm) (nR_of (by decide)) (cc_197 Λ X Y) rfl gL_places_X4_nearest rfl rfl rfl hd_X4_nearest ⟨by decide, by decide⟩ rfl rfl (Nat.le_of_ble_eq_true rfl) dL_places_47 ?_
      refine v_topi (y := nI x) ((nT (-5) (nI x) b0 n0).trans (if_pos rfl)) ?_
      refine v_istore (lv' := [(7, .int (nI x)), (6, .int (-5)), (5, .int (nI x)), (4, .int (nI R)), (3, .int (nI M)), (0, rf Λ 197), (1, .int (nI s)), (2, .int (nI n))]) hC dL_places_50 (by decide) rfl ?_
      refine v_iload hC dL_places_52 1 rfl ?_
      refine v_if_ge (tgt := 62) hC dL_places_54 (by decide) (fun h => absurd h (show ¬ (0 : Int32) ≤ -5 by decide)) (fun _ => ?_)
      refine v_iload hC dL_places_57 2 rfl ?_
      refine v_goto (tgt := 90) hC dL_places_59 (by decide) ?_
      refine v_istore (lv' := [(8, .int (nI x)), (7, .int (nI x)), (6, .int (-5)), (5, .int (nI x)), (4, .int (nI R)), (3, .int (nI M)), (0, rf Λ 197), (1, .int (nI s)), (2, .int (nI n))]) hC dL_places_90 (by decide) rfl ?_
      refine v_aload_n hC dL_places_92 6 rfl ?_
      refine v_iload_n hC dL_places_93 7 rfl ?_
      refine v_iload hC dL_places_94 4 rfl ?_
      refine v_callVr (v := .int (placeC X m (nI s) (nI R))) (C2 := CC Λ X Y) (As := [.int (nI s), .int (nI R)]) (rest := []) hC 2 197 (c_X4_at Λ X Y (s := nI s) (n := nI R) hm0 hm) (nR_of (by decide)) (cc_197 Λ X Y) rfl gL_places_X4_at rfl rfl rfl hd_X4_at ⟨by decide, by decide⟩ rfl rfl (Nat.le_of_ble_eq_true rfl) dL_places_96 ?_
      refine v_topi (y := nI x) (by rw [pT _ (nI_pos (by omega)), n0]) ?_
      refine v_iload hC dL_places_99 3 rfl ?_
      refine v_icmp_ne (tgt := 204) hC dL_places_101 (by decide) (fun h => absurd rfl h) (fun _ => ?_)
      refine v_iload hC dL_places_104 2 rfl ?_
      refine v_iload_n hC dL_places_106 8 rfl ?_
      refine v_icmp_ge (tgt := 204) hC dL_places_107 (by decide) (fun h => absurd h (show ¬ nI n ≤ -5 from fun z => absurd (Int32.le_trans (nI_pos' (n := n) (by omega)) z) (by decide))) (fun _ => ?_)
      refine v_iload hC dL_places_110 3 rfl ?_
      refine v_if_ge (tgt := 124) hC dL_places_112 (by decide) (fun _ => ?_) (fun h => absurd (nI_pos' (n := x) (by omega)) h)
      refine v_aload_n hC dL_places_124 6 rfl ?_
      refine v_iload_n hC dL_places_125 7 rfl ?_
      refine v_iload hC dL_places_126 3 rfl ?_
      refine v_callVr (v := .int (rankC X m (nI s) (nI x))) (C2 := CC Λ X Y) (As := [.int (nI s), .int (nI x)]) (rest := []) hC 2 197 (c_X4_rank Λ X Y (s := nI s) (n := nI x) hm0 hm) (nR_of (by decide)) (cc_197 Λ X Y) rfl gL_places_X4_rank rfl rfl rfl hd_X4_rank ⟨by decide, by decide⟩ rfl rfl (Nat.le_of_ble_eq_true rfl) dL_places_128 ?_
      refine v_topi (y := nI R) (by rw [rT _ x2, x4]) ?_
      refine v_iload hC dL_places_131 4 rfl ?_
      refine v_icmp_ne (tgt := 204) hC dL_places_133 (by decide) (fun h => absurd rfl h) (fun _ => ?_)
      refine v_aload_n hC dL_places_136 6 rfl ?_
      refine v_iload_n hC dL_places_137 7 rfl ?_
      refine v_iload hC dL_places_138 3 rfl ?_
      refine v_callVr (v := .int (hasC X m (nI s) (nI x))) (C2 := CC Λ X Y) (As := [.int (nI s), .int (nI x)]) (rest := []) hC 2 197 (c_X4_has Λ X Y (s := nI s) (n := nI x) hm0 hm) (nR_of (by decide)) (cc_197 Λ X Y) rfl gL_places_X4_has rfl rfl rfl hd_X4_has ⟨by decide, by decide⟩ rfl rfl (Nat.le_of_ble_eq_true rfl) dL_places_140 ?_
      refine v_topi (y := 1) (by rw [hT _ x2, x3]; rfl) ?_
      refine v_iconst (v := 1) hC dL_places_143 (by decide) ?_
      refine v_icmp_ne (tgt := 204) hC dL_places_144 (by decide) (fun h => absurd rfl h) (fun _ => ?_)
      refine v_iload hC dL_places_147 3 rfl ?_
      refine v_iload_n hC dL_places_149 8 rfl ?_
      refine v_icmp_lt (tgt := 204) hC dL_places_150 (by decide) (fun h => absurd h (show ¬ nI x < nI n from fun z => by have := (nI_ltI (by omega) (by omega)).mp z; omega)) (fun _ => ?_)
      cases hb : fbit (fw f) n with
      | false =>
        refine v_aload_n hC dL_places_153 6 rfl ?_
        refine v_iload_n hC dL_places_154 7 rfl ?_
        refine v_iload_n hC dL_places_155 8 rfl ?_
        refine v_callVr (v := .int (hasC X m (nI s) (nI n))) (C2 := CC Λ X Y) (As := [.int (nI s), .int (nI n)]) (rest := []) hC 2 197 (c_X4_has Λ X Y (s := nI s) (n := nI n) hm0 hm) (nR_of (by decide)) (cc_197 Λ X Y) rfl gL_places_X4_has rfl rfl rfl hd_X4_has ⟨by decide, by decide⟩ rfl rfl (Nat.le_of_ble_eq_true rfl) dL_places_156 ?_
        refine v_topi (y := 0) (by rw [hT _ hn, hb]; rfl) ?_
        refine v_iconst (v := 1) hC dL_places_159 (by decide) ?_
        refine v_icmp_ne (tgt := 167) hC dL_places_160 (by decide) (fun _ => ?_) (fun h => absurd h (show ¬ (0 : Int32) = 1 by decide))
        refine v_iconst (v := 0) hC dL_places_167 (by decide) ?_
        refine v_iload hC dL_places_168 3 rfl ?_
        refine v_iload_n hC dL_places_170 8 rfl ?_
        refine v_icmp_ne (tgt := 178) hC dL_places_171 (by decide) (fun _ => ?_) (fun h => absurd h (show ¬ nI x = nI n from fun z => by rw [(nI_eq (by omega) (by omega)).mp z, hb] at x3; exact absurd x3 (by decide)))
        refine v_iconst (v := 0) hC dL_places_178 (by decide) ?_
        refine v_icmp_ne (tgt := 204) hC dL_places_179 (by decide) (fun h => absurd rfl h) (fun _ => ?_)
        refine v_iload hC dL_places_182 1 rfl ?_
        refine v_iload hC dL_places_184 0 rfl ?_
        refine v_icmp_ne (tgt := 204) hC dL_places_186 (by decide) (fun h => absurd rfl h) (fun _ => ?_)
        refine v_aload_n hC dL_places_189 6 rfl ?_
        refine v_iload_n hC dL_places_190 7 rfl ?_
        refine v_iload_n hC dL_places_191 5 rfl ?_
        refine v_callVr (v := .int (placeC X m (nI s) (nI M))) (C2 := CC Λ X Y) (As := [.int (nI s), .int (nI M)]) (rest := []) hC 2 197 (c_X4_at Λ X Y (s := nI s) (n := nI M) hm0 hm) (nR_of (by decide)) (cc_197 Λ X Y) rfl gL_places_X4_at rfl rfl rfl hd_X4_at ⟨by decide, by decide⟩ rfl rfl (Nat.le_of_ble_eq_true rfl) dL_places_192 ?_
        refine v_topi (y := (-5)) (by rw [pT _ (nI_pos (by omega)), aE]) ?_
        refine v_bipush (v := (-5)) hC dL_places_195 (by decide) ?_
        refine v_icmp_ne (tgt := 204) hC dL_places_197 (by decide) (fun h => absurd rfl h) (fun _ => ?_)
        refine v_iconst (v := 1) hC dL_places_200 (by decide) ?_
        refine v_goto (tgt := 205) hC dL_places_201 (by decide) ?_
        refine v_sub (lv' := [(3, .int (nI M)), (0, rf Λ 197), (1, .int (nI s)), (2, .int (nI n))]) [5, 6, 7, 8] rfl ?_
        exact J205
      | true =>
        refine v_aload_n hC dL_places_153 6 rfl ?_
        refine v_iload_n hC dL_places_154 7 rfl ?_
        refine v_iload_n hC dL_places_155 8 rfl ?_
        refine v_callVr (v := .int (hasC X m (nI s) (nI n))) (C2 := CC Λ X Y) (As := [.int (nI s), .int (nI n)]) (rest := []) hC 2 197 (c_X4_has Λ X Y (s := nI s) (n := nI n) hm0 hm) (nR_of (by decide)) (cc_197 Λ X Y) rfl gL_places_X4_has rfl rfl rfl hd_X4_has ⟨by decide, by decide⟩ rfl rfl (Nat.le_of_ble_eq_true rfl) dL_places_156 ?_
        refine v_topi (y := 1) (by rw [hT _ hn, hb]; rfl) ?_
        refine v_iconst (v := 1) hC dL_places_159 (by decide) ?_
        refine v_icmp_ne (tgt := 167) hC dL_places_160 (by decide) (fun h => absurd rfl h) (fun _ => ?_)
        refine v_iconst (v := 1) hC dL_places_163 (by decide) ?_
        refine v_goto (tgt := 168) hC dL_places_164 (by decide) ?_
        refine v_iload hC dL_places_168 3 rfl ?_
        refine v_iload_n hC dL_places_170 8 rfl ?_
        refine v_icmp_ne (tgt := 178) hC dL_places_171 (by decide) (fun h => absurd (congrArg nI (x5 hb)) h) (fun _ => ?_)
        refine v_iconst (v := 1) hC dL_places_174 (by decide) ?_
        refine v_goto (tgt := 179) hC dL_places_175 (by decide) ?_
        refine v_icmp_ne (tgt := 204) hC dL_places_179 (by decide) (fun h => absurd rfl h) (fun _ => ?_)
        refine v_iload hC dL_places_182 1 rfl ?_
        refine v_iload hC dL_places_184 0 rfl ?_
        refine v_icmp_ne (tgt := 204) hC dL_places_186 (by decide) (fun h => absurd rfl h) (fun _ => ?_)
        refine v_aload_n hC dL_places_189 6 rfl ?_
        refine v_iload_n hC dL_places_190 7 rfl ?_
        refine v_iload_n hC dL_places_191 5 rfl ?_
        refine v_callVr (v := .int (placeC X m (nI s) (nI M))) (C2 := CC Λ X Y) (As := [.int (nI s), .int (nI M)]) (rest := []) hC 2 197 (c_X4_at Λ X Y (s := nI s) (n := nI M) hm0 hm) (nR_of (by decide)) (cc_197 Λ X Y) rfl gL_places_X4_at rfl rfl rfl hd_X4_at ⟨by decide, by decide⟩ rfl rfl (Nat.le_of_ble_eq_true rfl) dL_places_192 ?_
        refine v_topi (y := (-5)) (by rw [pT _ (nI_pos (by omega)), aE]) ?_
        refine v_bipush (v := (-5)) hC dL_places_195 (by decide) ?_
        refine v_icmp_ne (tgt := 204) hC dL_places_197 (by decide) (fun h => absurd rfl h) (fun _ => ?_)
        refine v_iconst (v := 1) hC dL_places_200 (by decide) ?_
        refine v_goto (tgt := 205) hC dL_places_201 (by decide) ?_
        refine v_sub (lv' := [(3, .int (nI M)), (0, rf Λ 197), (1, .int (nI s)), (2, .int (nI n))]) [5, 6, 7, 8] rfl ?_
        exact J205
    · refine v_aload_n hC dL_places_0 0 rfl ?_
      refine v_iload_n hC dL_places_1 1 rfl ?_
      refine v_iconst (v := 0) hC dL_places_2 (by decide) ?_
      refine v_callVr (v := .int (setC X m (nI s) 0)) (C2 := CC Λ X Y) (As := [.int (nI s), .int 0]) (rest := []) hC 2 197 (c_X4_set Λ X Y (s := nI s) (v := 0) hm0 hm) (nR_of (by decide)) (cc_197 Λ X Y) rfl gL_places_X4_set rfl rfl rfl hd_X4_set ⟨by decide, by decide⟩ rfl rfl (Nat.le_of_ble_eq_true rfl) dL_places_3 ?_
      refine v_topi (y := nI M) (by rw [sT, se_0, sM]) ?_
      refine v_istore_n (lv' := [(3, .int (nI M)), (0, rf Λ 197), (1, .int (nI s)), (2, .int (nI n))]) hC dL_places_6 (by decide) rfl ?_
      refine v_aload_n hC dL_places_7 1 rfl ?_
      refine v_iload_n hC dL_places_8 2 rfl ?_
      refine v_iload_n hC dL_places_9 3 rfl ?_
      refine v_callVr (v := .int (rankC X m (nI s) (nI n))) (C2 := CC Λ X Y) (As := [.int (nI s), .int (nI n)]) (rest := []) hC 2 197 (c_X4_rank Λ X Y (s := nI s) (n := nI n) hm0 hm) (nR_of (by decide)) (cc_197 Λ X Y) rfl gL_places_X4_rank rfl rfl rfl hd_X4_rank ⟨by decide, by decide⟩ rfl rfl (Nat.le_of_ble_eq_true rfl) dL_places_10 ?_
      refine v_topi (y := nI R) (by rw [rT _ hn, hR0]) ?_
      refine v_istore (lv' := [(4, .int (nI R)), (3, .int (nI M)), (0, rf Λ 197), (1, .int (nI s)), (2, .int (nI n))]) hC dL_places_13 (by decide) rfl ?_
      refine v_aload_n hC dL_places_15 2 rfl ?_
      refine v_iload_n hC dL_places_16 3 rfl ?_
      refine v_iload_n hC dL_places_17 4 rfl ?_
      refine v_callVr (v := .int (nextC X m (nI s) (nI n))) (C2 := CC Λ X Y) (As := [.int (nI s), .int (nI n)]) (rest := []) hC 2 197 (c_X4_next Λ X Y (s := nI s) (n := nI n) hm0 hm) (nR_of (by decide)) (cc_197 Λ X Y) rfl gL_places_X4_next rfl rfl rfl hd_X4_next ⟨by decide, by decide⟩ rfl rfl (Nat.le_of_ble_eq_true rfl) dL_places_18 ?_
      refine v_topi (y := nI x) (by rw [xT _ hn, hR0, n0]) ?_
      refine v_istore (lv' := [(5, .int (nI x)), (4, .int (nI R)), (3, .int (nI M)), (0, rf Λ 197), (1, .int (nI s)), (2, .int (nI n))]) hC dL_places_21 (by decide) rfl ?_
      refine v_iload hC dL_places_23 1 rfl ?_
      refine v_if_le (tgt := 40) hC dL_places_25 (by decide) (fun h => absurd h (nI_nle b1 (by omega))) (fun _ => ?_)
      refine v_aload_n hC dL_places_28 3 rfl ?_
      refine v_iload_n hC dL_places_29 4 rfl ?_
      refine v_iload hC dL_places_30 1 rfl ?_
      refine v_iconst (v := 1) hC dL_places_32 (by decide) ?_
      refine v_isub (x := nI R) (y := 1) hC dL_places_33 ?_
      refine v_callVr (v := .int (placeC X m (nI s) ((nI R) - 1))) (C2 := CC Λ X Y) (As := [.int (nI s), .int ((nI R) - 1)]) (rest := []) hC 2 197 (c_X4_at Λ X Y (s := nI s) (n := (nI R) - 1) hm0 hm) (nR_of (by decide)) (cc_197 Λ X Y) rfl gL_places_X4_at rfl rfl rfl hd_X4_at ⟨by decide, by decide⟩ rfl rfl (Nat.le_of_ble_eq_true rfl) dL_places_34 ?_
      refine v_topi (y := nI y) (by rw [pT _ (by rw [show nI R - 1 = nI (R - 1) from pk_sub (b := 1) b1]; exact nI_pos (by omega)), b0]) ?_
      refine v_goto (tgt := 42) hC dL_places_37 (by decide) ?_
      refine v_istore (lv' := [(6, .int (nI y)), (5, .int (nI x)), (4, .int (nI R)), (3, .int (nI M)), (0, rf Λ 197), (1, .int (nI s)), (2, .int (nI n))]) hC dL_places_42 (by decide) rfl ?_
      refine v_aload_n hC dL_places_44 4 rfl ?_
      refine v_iload_n hC dL_places_45 5 rfl ?_
      refine v_iload_n hC dL_places_46 6 rfl ?_
      refine v_callVr (v := .int (nearC X m (nI s) (nI n))) (C2 := CC Λ X Y) (As := [.int (nI s), .int (nI n)]) (rest := []) hC 2 197 (c_X4_nearest Λ X Y (s := nI s) (n := nI n) hm0 hm) (nR_of (by decide)) (cc_197 Λ X Y) rfl gL_places_X4_nearest rfl rfl rfl hd_X4_nearest ⟨by decide, by decide⟩ rfl rfl (Nat.le_of_ble_eq_true rfl) dL_places_47 ?_
      refine v_topi (y := if nI x - nI n < nI n - nI y then nI x else nI y) ((nT (nI y) (nI x) b0 n0).trans ((if_neg (show ¬ nI y = -5 from nI_m5 (by omega))).trans (if_neg (show ¬ nI x = -5 from nI_m5 (by omega))))) ?_
      refine v_istore (lv' := [(7, .int (if nI x - nI n < nI n - nI y then nI x else nI y)), (6, .int (nI y)), (5, .int (nI x)), (4, .int (nI R)), (3, .int (nI M)), (0, rf Λ 197), (1, .int (nI s)), (2, .int (nI n))]) hC dL_places_50 (by decide) rfl ?_
      refine v_iload hC dL_places_52 1 rfl ?_
      refine v_if_ge (tgt := 62) hC dL_places_54 (by decide) (fun _ => ?_) (fun h => absurd (nI_pos' (n := y) (by omega)) h)
      refine v_iload hC dL_places_62 2 rfl ?_
      refine v_if_ge (tgt := 72) hC dL_places_64 (by decide) (fun _ => ?_) (fun h => absurd (nI_pos' (n := x) (by omega)) h)
      refine v_iload hC dL_places_72 2 rfl ?_
      refine v_iload_n hC dL_places_74 7 rfl ?_
      refine v_isub (x := nI x) (y := nI n) hC dL_places_75 ?_
      refine v_iload_n hC dL_places_76 7 rfl ?_
      refine v_iload hC dL_places_77 1 rfl ?_
      refine v_isub (x := nI n) (y := nI y) hC dL_places_79 ?_
      refine v_icmp_ge (tgt := 88) hC dL_places_80 (by decide) (fun c80 => ?_) (fun c80 => ?_)
      · refine v_iload hC dL_places_88 1 rfl ?_
        refine v_istore (lv' := [(8, .int (nI y)), (7, .int (if nI x - nI n < nI n - nI y then nI x else nI y)), (6, .int (nI y)), (5, .int (nI x)), (4, .int (nI R)), (3, .int (nI M)), (0, rf Λ 197), (1, .int (nI s)), (2, .int (nI n))]) hC dL_places_90 (by decide) rfl ?_
        refine v_aload_n hC dL_places_92 6 rfl ?_
        refine v_iload_n hC dL_places_93 7 rfl ?_
        refine v_iload hC dL_places_94 4 rfl ?_
        refine v_callVr (v := .int (placeC X m (nI s) (nI R))) (C2 := CC Λ X Y) (As := [.int (nI s), .int (nI R)]) (rest := []) hC 2 197 (c_X4_at Λ X Y (s := nI s) (n := nI R) hm0 hm) (nR_of (by decide)) (cc_197 Λ X Y) rfl gL_places_X4_at rfl rfl rfl hd_X4_at ⟨by decide, by decide⟩ rfl rfl (Nat.le_of_ble_eq_true rfl) dL_places_96 ?_
        refine v_topi (y := nI x) (by rw [pT _ (nI_pos (by omega)), n0]) ?_
        refine v_iload hC dL_places_99 3 rfl ?_
        refine v_icmp_ne (tgt := 204) hC dL_places_101 (by decide) (fun h => absurd rfl h) (fun _ => ?_)
        refine v_iload hC dL_places_104 2 rfl ?_
        refine v_iload_n hC dL_places_106 8 rfl ?_
        refine v_icmp_ge (tgt := 204) hC dL_places_107 (by decide) (fun h => absurd h (show ¬ nI n ≤ nI y from fun z => by have := (nI_leI (by omega) (by omega)).mp z; omega)) (fun _ => ?_)
        refine v_iload hC dL_places_110 3 rfl ?_
        refine v_if_ge (tgt := 124) hC dL_places_112 (by decide) (fun _ => ?_) (fun h => absurd (nI_pos' (n := x) (by omega)) h)
        refine v_aload_n hC dL_places_124 6 rfl ?_
        refine v_iload_n hC dL_places_125 7 rfl ?_
        refine v_iload hC dL_places_126 3 rfl ?_
        refine v_callVr (v := .int (rankC X m (nI s) (nI x))) (C2 := CC Λ X Y) (As := [.int (nI s), .int (nI x)]) (rest := []) hC 2 197 (c_X4_rank Λ X Y (s := nI s) (n := nI x) hm0 hm) (nR_of (by decide)) (cc_197 Λ X Y) rfl gL_places_X4_rank rfl rfl rfl hd_X4_rank ⟨by decide, by decide⟩ rfl rfl (Nat.le_of_ble_eq_true rfl) dL_places_128 ?_
        refine v_topi (y := nI R) (by rw [rT _ x2, x4]) ?_
        refine v_iload hC dL_places_131 4 rfl ?_
        refine v_icmp_ne (tgt := 204) hC dL_places_133 (by decide) (fun h => absurd rfl h) (fun _ => ?_)
        refine v_aload_n hC dL_places_136 6 rfl ?_
        refine v_iload_n hC dL_places_137 7 rfl ?_
        refine v_iload hC dL_places_138 3 rfl ?_
        refine v_callVr (v := .int (hasC X m (nI s) (nI x))) (C2 := CC Λ X Y) (As := [.int (nI s), .int (nI x)]) (rest := []) hC 2 197 (c_X4_has Λ X Y (s := nI s) (n := nI x) hm0 hm) (nR_of (by decide)) (cc_197 Λ X Y) rfl gL_places_X4_has rfl rfl rfl hd_X4_has ⟨by decide, by decide⟩ rfl rfl (Nat.le_of_ble_eq_true rfl) dL_places_140 ?_
        refine v_topi (y := 1) (by rw [hT _ x2, x3]; rfl) ?_
        refine v_iconst (v := 1) hC dL_places_143 (by decide) ?_
        refine v_icmp_ne (tgt := 204) hC dL_places_144 (by decide) (fun h => absurd rfl h) (fun _ => ?_)
        refine v_iload hC dL_places_147 3 rfl ?_
        refine v_iload_n hC dL_places_149 8 rfl ?_
        refine v_icmp_lt (tgt := 204) hC dL_places_150 (by decide) (fun h => absurd h (show ¬ nI x < nI n from fun z => by have := (nI_ltI (by omega) (by omega)).mp z; omega)) (fun _ => ?_)
        cases hb : fbit (fw f) n with
        | false =>
          refine v_aload_n hC dL_places_153 6 rfl ?_
          refine v_iload_n hC dL_places_154 7 rfl ?_
          refine v_iload_n hC dL_places_155 8 rfl ?_
          refine v_callVr (v := .int (hasC X m (nI s) (nI n))) (C2 := CC Λ X Y) (As := [.int (nI s), .int (nI n)]) (rest := []) hC 2 197 (c_X4_has Λ X Y (s := nI s) (n := nI n) hm0 hm) (nR_of (by decide)) (cc_197 Λ X Y) rfl gL_places_X4_has rfl rfl rfl hd_X4_has ⟨by decide, by decide⟩ rfl rfl (Nat.le_of_ble_eq_true rfl) dL_places_156 ?_
          refine v_topi (y := 0) (by rw [hT _ hn, hb]; rfl) ?_
          refine v_iconst (v := 1) hC dL_places_159 (by decide) ?_
          refine v_icmp_ne (tgt := 167) hC dL_places_160 (by decide) (fun _ => ?_) (fun h => absurd h (show ¬ (0 : Int32) = 1 by decide))
          refine v_iconst (v := 0) hC dL_places_167 (by decide) ?_
          refine v_iload hC dL_places_168 3 rfl ?_
          refine v_iload_n hC dL_places_170 8 rfl ?_
          refine v_icmp_ne (tgt := 178) hC dL_places_171 (by decide) (fun _ => ?_) (fun h => absurd h (show ¬ nI x = nI n from fun z => by rw [(nI_eq (by omega) (by omega)).mp z, hb] at x3; exact absurd x3 (by decide)))
          refine v_iconst (v := 0) hC dL_places_178 (by decide) ?_
          refine v_icmp_ne (tgt := 204) hC dL_places_179 (by decide) (fun h => absurd rfl h) (fun _ => ?_)
          refine v_iload hC dL_places_182 1 rfl ?_
          refine v_iload hC dL_places_184 0 rfl ?_
          refine v_icmp_ne (tgt := 204) hC dL_places_186 (by decide) (fun h => absurd (if_neg (Int32.not_lt.mpr c80)) h) (fun _ => ?_)
          refine v_aload_n hC dL_places_189 6 rfl ?_
          refine v_iload_n hC dL_places_190 7 rfl ?_
          refine v_iload_n hC dL_places_191 5 rfl ?_
          refine v_callVr (v := .int (placeC X m (nI s) (nI M))) (C2 := CC Λ X Y) (As := [.int (nI s), .int (nI M)]) (rest := []) hC 2 197 (c_X4_at Λ X Y (s := nI s) (n := nI M) hm0 hm) (nR_of (by decide)) (cc_197 Λ X Y) rfl gL_places_X4_at rfl rfl rfl hd_X4_at ⟨by decide, by decide⟩ rfl rfl (Nat.le_of_ble_eq_true rfl) dL_places_192 ?_
          refine v_topi (y := (-5)) (by rw [pT _ (nI_pos (by omega)), aE]) ?_
          refine v_bipush (v := (-5)) hC dL_places_195 (by decide) ?_
          refine v_icmp_ne (tgt := 204) hC dL_places_197 (by decide) (fun h => absurd rfl h) (fun _ => ?_)
          refine v_iconst (v := 1) hC dL_places_200 (by decide) ?_
          refine v_goto (tgt := 205) hC dL_places_201 (by decide) ?_
          refine v_sub (lv' := [(3, .int (nI M)), (0, rf Λ 197), (1, .int (nI s)), (2, .int (nI n))]) [5, 6, 7, 8] rfl ?_
          exact J205
        | true =>
          refine v_aload_n hC dL_places_153 6 rfl ?_
          refine v_iload_n hC dL_places_154 7 rfl ?_
          refine v_iload_n hC dL_places_155 8 rfl ?_
          refine v_callVr (v := .int (hasC X m (nI s) (nI n))) (C2 := CC Λ X Y) (As := [.int (nI s), .int (nI n)]) (rest := []) hC 2 197 (c_X4_has Λ X Y (s := nI s) (n := nI n) hm0 hm) (nR_of (by decide)) (cc_197 Λ X Y) rfl gL_places_X4_has rfl rfl rfl hd_X4_has ⟨by decide, by decide⟩ rfl rfl (Nat.le_of_ble_eq_true rfl) dL_places_156 ?_
          refine v_topi (y := 1) (by rw [hT _ hn, hb]; rfl) ?_
          refine v_iconst (v := 1) hC dL_places_159 (by decide) ?_
          refine v_icmp_ne (tgt := 167) hC dL_places_160 (by decide) (fun h => absurd rfl h) (fun _ => ?_)
          refine v_iconst (v := 1) hC dL_places_163 (by decide) ?_
          refine v_goto (tgt := 168) hC dL_places_164 (by decide) ?_
          refine v_iload hC dL_places_168 3 rfl ?_
          refine v_iload_n hC dL_places_170 8 rfl ?_
          refine v_icmp_ne (tgt := 178) hC dL_places_171 (by decide) (fun h => absurd (congrArg nI (x5 hb)) h) (fun _ => ?_)
          refine v_iconst (v := 1) hC dL_places_174 (by decide) ?_
          refine v_goto (tgt := 179) hC dL_places_175 (by decide) ?_
          refine v_icmp_ne (tgt := 204) hC dL_places_179 (by decide) (fun h => absurd rfl h) (fun _ => ?_)
          refine v_iload hC dL_places_182 1 rfl ?_
          refine v_iload hC dL_places_184 0 rfl ?_
          refine v_icmp_ne (tgt := 204) hC dL_places_186 (by decide) (fun h => absurd (if_neg (Int32.not_lt.mpr c80)) h) (fun _ => ?_)
          refine v_aload_n hC dL_places_189 6 rfl ?_
          refine v_iload_n hC dL_places_190 7 rfl ?_
          refine v_iload_n hC dL_places_191 5 rfl ?_
          refine v_callVr (v := .int (placeC X m (nI s) (nI M))) (C2 := CC Λ X Y) (As := [.int (nI s), .int (nI M)]) (rest := []) hC 2 197 (c_X4_at Λ X Y (s := nI s) (n := nI M) hm0 hm) (nR_of (by decide)) (cc_197 Λ X Y) rfl gL_places_X4_at rfl rfl rfl hd_X4_at ⟨by decide, by decide⟩ rfl rfl (Nat.le_of_ble_eq_true rfl) dL_places_192 ?_
          refine v_topi (y := (-5)) (by rw [pT _ (nI_pos (by omega)), aE]) ?_
          refine v_bipush (v := (-5)) hC dL_places_195 (by decide) ?_
          refine v_icmp_ne (tgt := 204) hC dL_places_197 (by decide) (fun h => absurd rfl h) (fun _ => ?_)
          refine v_iconst (v := 1) hC dL_places_200 (by decide) ?_
          refine v_goto (tgt := 205) hC dL_places_201 (by decide) ?_
          refine v_sub (lv' := [(3, .int (nI M)), (0, rf Λ 197), (1, .int (nI s)), (2, .int (nI n))]) [5, 6, 7, 8] rfl ?_
          exact J205
      · refine v_iload hC dL_places_83 2 rfl ?_
        refine v_goto (tgt := 90) hC dL_places_85 (by decide) ?_
        refine v_istore (lv' := [(8, .int (nI x)), (7, .int (if nI x - nI n < nI n - nI y then nI x else nI y)), (6, .int (nI y)), (5, .int (nI x)), (4, .int (nI R)), (3, .int (nI M)), (0, rf Λ 197), (1, .int (nI s)), (2, .int (nI n))]) hC dL_places_90 (by decide) rfl ?_
        refine v_aload_n hC dL_places_92 6 rfl ?_
        refine v_iload_n hC dL_places_93 7 rfl ?_
        refine v_iload hC dL_places_94 4 rfl ?_
        refine v_callVr (v := .int (placeC X m (nI s) (nI R))) (C2 := CC Λ X Y) (As := [.int (nI s), .int (nI R)]) (rest := []) hC 2 197 (c_X4_at Λ X Y (s := nI s) (n := nI R) hm0 hm) (nR_of (by decide)) (cc_197 Λ X Y) rfl gL_places_X4_at rfl rfl rfl hd_X4_at ⟨by decide, by decide⟩ rfl rfl (Nat.le_of_ble_eq_true rfl) dL_places_96 ?_
        refine v_topi (y := nI x) (by rw [pT _ (nI_pos (by omega)), n0]) ?_
        refine v_iload hC dL_places_99 3 rfl ?_
        refine v_icmp_ne (tgt := 204) hC dL_places_101 (by decide) (fun h => absurd rfl h) (fun _ => ?_)
        refine v_iload hC dL_places_104 2 rfl ?_
        refine v_iload_n hC dL_places_106 8 rfl ?_
        refine v_icmp_ge (tgt := 204) hC dL_places_107 (by decide) (fun h => absurd h (show ¬ nI n ≤ nI y from fun z => by have := (nI_leI (by omega) (by omega)).mp z; omega)) (fun _ => ?_)
        refine v_iload hC dL_places_110 3 rfl ?_
        refine v_if_ge (tgt := 124) hC dL_places_112 (by decide) (fun _ => ?_) (fun h => absurd (nI_pos' (n := x) (by omega)) h)
        refine v_aload_n hC dL_places_124 6 rfl ?_
        refine v_iload_n hC dL_places_125 7 rfl ?_
        refine v_iload hC dL_places_126 3 rfl ?_
        refine v_callVr (v := .int (rankC X m (nI s) (nI x))) (C2 := CC Λ X Y) (As := [.int (nI s), .int (nI x)]) (rest := []) hC 2 197 (c_X4_rank Λ X Y (s := nI s) (n := nI x) hm0 hm) (nR_of (by decide)) (cc_197 Λ X Y) rfl gL_places_X4_rank rfl rfl rfl hd_X4_rank ⟨by decide, by decide⟩ rfl rfl (Nat.le_of_ble_eq_true rfl) dL_places_128 ?_
        refine v_topi (y := nI R) (by rw [rT _ x2, x4]) ?_
        refine v_iload hC dL_places_131 4 rfl ?_
        refine v_icmp_ne (tgt := 204) hC dL_places_133 (by decide) (fun h => absurd rfl h) (fun _ => ?_)
        refine v_aload_n hC dL_places_136 6 rfl ?_
        refine v_iload_n hC dL_places_137 7 rfl ?_
        refine v_iload hC dL_places_138 3 rfl ?_
        refine v_callVr (v := .int (hasC X m (nI s) (nI x))) (C2 := CC Λ X Y) (As := [.int (nI s), .int (nI x)]) (rest := []) hC 2 197 (c_X4_has Λ X Y (s := nI s) (n := nI x) hm0 hm) (nR_of (by decide)) (cc_197 Λ X Y) rfl gL_places_X4_has rfl rfl rfl hd_X4_has ⟨by decide, by decide⟩ rfl rfl (Nat.le_of_ble_eq_true rfl) dL_places_140 ?_
        refine v_topi (y := 1) (by rw [hT _ x2, x3]; rfl) ?_
        refine v_iconst (v := 1) hC dL_places_143 (by decide) ?_
        refine v_icmp_ne (tgt := 204) hC dL_places_144 (by decide) (fun h => absurd rfl h) (fun _ => ?_)
        refine v_iload hC dL_places_147 3 rfl ?_
        refine v_iload_n hC dL_places_149 8 rfl ?_
        refine v_icmp_lt (tgt := 204) hC dL_places_150 (by decide) (fun h => absurd h (show ¬ nI x < nI n from fun z => by have := (nI_ltI (by omega) (by omega)).mp z; omega)) (fun _ => ?_)
        cases hb : fbit (fw f) n with
        | false =>
          refine v_aload_n hC dL_places_153 6 rfl ?_
          refine v_iload_n hC dL_places_154 7 rfl ?_
          refine v_iload_n hC dL_places_155 8 rfl ?_
          refine v_callVr (v := .int (hasC X m (nI s) (nI n))) (C2 := CC Λ X Y) (As := [.int (nI s), .int (nI n)]) (rest := []) hC 2 197 (c_X4_has Λ X Y (s := nI s) (n := nI n) hm0 hm) (nR_of (by decide)) (cc_197 Λ X Y) rfl gL_places_X4_has rfl rfl rfl hd_X4_has ⟨by decide, by decide⟩ rfl rfl (Nat.le_of_ble_eq_true rfl) dL_places_156 ?_
          refine v_topi (y := 0) (by rw [hT _ hn, hb]; rfl) ?_
          refine v_iconst (v := 1) hC dL_places_159 (by decide) ?_
          refine v_icmp_ne (tgt := 167) hC dL_places_160 (by decide) (fun _ => ?_) (fun h => absurd h (show ¬ (0 : Int32) = 1 by decide))
          refine v_iconst (v := 0) hC dL_places_167 (by decide) ?_
          refine v_iload hC dL_places_168 3 rfl ?_
          refine v_iload_n hC dL_places_170 8 rfl ?_
          refine v_icmp_ne (tgt := 178) hC dL_places_171 (by decide) (fun _ => ?_) (fun h => absurd h (show ¬ nI x = nI n from fun z => by rw [(nI_eq (by omega) (by omega)).mp z, hb] at x3; exact absurd x3 (by decide)))
          refine v_iconst (v := 0) hC dL_places_178 (by decide) ?_
          refine v_icmp_ne (tgt := 204) hC dL_places_179 (by decide) (fun h => absurd rfl h) (fun _ => ?_)
          refine v_iload hC dL_places_182 1 rfl ?_
          refine v_iload hC dL_places_184 0 rfl ?_
          refine v_icmp_ne (tgt := 204) hC dL_places_186 (by decide) (fun h => absurd (if_pos (Int32.not_le.mp c80)) h) (fun _ => ?_)
          refine v_aload_n hC dL_places_189 6 rfl ?_
          refine v_iload_n hC dL_places_190 7 rfl ?_
          refine v_iload_n hC dL_places_191 5 rfl ?_
          refine v_callVr (v := .int (placeC X m (nI s) (nI M))) (C2 := CC Λ X Y) (As := [.int (nI s), .int (nI M)]) (rest := []) hC 2 197 (c_X4_at Λ X Y (s := nI s) (n := nI M) hm0 hm) (nR_of (by decide)) (cc_197 Λ X Y) rfl gL_places_X4_at rfl rfl rfl hd_X4_at ⟨by decide, by decide⟩ rfl rfl (Nat.le_of_ble_eq_true rfl) dL_places_192 ?_
          refine v_topi (y := (-5)) (by rw [pT _ (nI_pos (by omega)), aE]) ?_
          refine v_bipush (v := (-5)) hC dL_places_195 (by decide) ?_
          refine v_icmp_ne (tgt := 204) hC dL_places_197 (by decide) (fun h => absurd rfl h) (fun _ => ?_)
          refine v_iconst (v := 1) hC dL_places_200 (by decide) ?_
          refine v_goto (tgt := 205) hC dL_places_201 (by decide) ?_
          refine v_sub (lv' := [(3, .int (nI M)), (0, rf Λ 197), (1, .int (nI s)), (2, .int (nI n))]) [5, 6, 7, 8] rfl ?_
          exact J205
        | true =>
          refine v_aload_n hC dL_places_153 6 rfl ?_
          refine v_iload_n hC dL_places_154 7 rfl ?_
          refine v_iload_n hC dL_places_155 8 rfl ?_
          refine v_callVr (v := .int (hasC X m (nI s) (nI n))) (C2 := CC Λ X Y) (As := [.int (nI s), .int (nI n)]) (rest := []) hC 2 197 (c_X4_has Λ X Y (s := nI s) (n := nI n) hm0 hm) (nR_of (by decide)) (cc_197 Λ X Y) rfl gL_places_X4_has rfl rfl rfl hd_X4_has ⟨by decide, by decide⟩ rfl rfl (Nat.le_of_ble_eq_true rfl) dL_places_156 ?_
          refine v_topi (y := 1) (by rw [hT _ hn, hb]; rfl) ?_
          refine v_iconst (v := 1) hC dL_places_159 (by decide) ?_
          refine v_icmp_ne (tgt := 167) hC dL_places_160 (by decide) (fun h => absurd rfl h) (fun _ => ?_)
          refine v_iconst (v := 1) hC dL_places_163 (by decide) ?_
          refine v_goto (tgt := 168) hC dL_places_164 (by decide) ?_
          refine v_iload hC dL_places_168 3 rfl ?_
          refine v_iload_n hC dL_places_170 8 rfl ?_
          refine v_icmp_ne (tgt := 178) hC dL_places_171 (by decide) (fun h => absurd (congrArg nI (x5 hb)) h) (fun _ => ?_)
          refine v_iconst (v := 1) hC dL_places_174 (by decide) ?_
          refine v_goto (tgt := 179) hC dL_places_175 (by decide) ?_
          refine v_icmp_ne (tgt := 204) hC dL_places_179 (by decide) (fun h => absurd rfl h) (fun _ => ?_)
          refine v_iload hC dL_places_182 1 rfl ?_
          refine v_iload hC dL_places_184 0 rfl ?_
          refine v_icmp_ne (tgt := 204) hC dL_places_186 (by decide) (fun h => absurd (if_pos (Int32.not_le.mp c80)) h) (fun _ => ?_)
          refine v_aload_n hC dL_places_189 6 rfl ?_
          refine v_iload_n hC dL_places_190 7 rfl ?_
          refine v_iload_n hC dL_places_191 5 rfl ?_
          refine v_callVr (v := .int (placeC X m (nI s) (nI M))) (C2 := CC Λ X Y) (As := [.int (nI s), .int (nI M)]) (rest := []) hC 2 197 (c_X4_at Λ X Y (s := nI s) (n := nI M) hm0 hm) (nR_of (by decide)) (cc_197 Λ X Y) rfl gL_places_X4_at rfl rfl rfl hd_X4_at ⟨by decide, by decide⟩ rfl rfl (Nat.le_of_ble_eq_true rfl) dL_places_192 ?_
          refine v_topi (y := (-5)) (by rw [pT _ (nI_pos (by omega)), aE]) ?_
          refine v_bipush (v := (-5)) hC dL_places_195 (by decide) ?_
          refine v_icmp_ne (tgt := 204) hC dL_places_197 (by decide) (fun h => absurd rfl h) (fun _ => ?_)
          refine v_iconst (v := 1) hC dL_places_200 (by decide) ?_
          refine v_goto (tgt := 205) hC dL_places_201 (by decide) ?_
          refine v_sub (lv' := [(3, .int (nI M)), (0, rf Λ 197), (1, .int (nI s)), (2, .int (nI n))]) [5, 6, 7, 8] rfl ?_
          exact J205
