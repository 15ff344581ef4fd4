/-! The law: all sets together -/
theorem hd_L_sound : yL_sound.cls ≠ "java/lang/invoke/MethodHandle" ∧ yL_sound.cls ≠ "java/lang/invoke/VarHandle" ∧ (parseMethodDescriptor yL_sound.desc).map (fun d => d.parameters.length) = some 3 := by decide +kernel
set_option maxHeartbeats 2000000 in
set_option maxRecDepth 100000 in
theorem c_L_sound (Λ : Lk) (X : XS) (Y : YS) {m t : Nat} {z : Int32} (h : Inv X Y m t) (h1 : 0 < m) : Con Λ yL_sound wsL_sound { frames := 6, cells := 0, slots := 0, locals := 149 } [rf Λ 197, rf Λ 204, .int z] (CC Λ X Y) (some (.int 1)) (CC Λ X Y) := by
  refine con_start (cc := cL_sound) (maxL := 11) (ret := (some .boolean)) (by decide) rfl (Nat.le_of_ble_eq_true rfl) ?_
  intro κ hC hR
  have hC : Ok Λ { frames := 6, cells := 0, slots := 0, locals := 149 } cL_sound wsL_sound RL 11 κ := hC
  refine v_args (lv' := [(0, rf Λ 197), (1, rf Λ 204), (2, .int z)]) rfl ?_
  have hm0 := h.1.1
  have hm := h.1.2
  have hp0 := h.2.2.1.1
  have ht4 := h.2.2.1.2.1
  have hq := h.2.2.1.2.2.1
  have hl0 := h.2.2.2.2.1
  have hT : sumI (fun j => sz (X.1 j)) m = nI (tA X m) := tA_sum m (fun s hs => (h.2.1 s hs).1)
  have hT2 := tA_le X hm
  obtain ⟨d1, d2⟩ := dA_le X m
  have d3 := dA_2048 X m
  have d4 := most_T X m
  obtain ⟨v, v1, v2, v3⟩ := ls_ok X m
  have sT : ∀ s, s < m → ∀ v, setC X m (nI s) v = setF (X.1 s) v := fun s hs v => set_T hs hm v
  refine v_aload_n hC dL_sound_0 0 rfl ?_
  refine v_iconst (v := 0) hC dL_sound_1 (by decide) ?_
  refine v_callVr (v := .int (cntC X m t 0 0)) (C2 := CC Λ X Y) (As := [.int 0]) (rest := []) hC 1 197 (c_X4_count Λ X Y (v := 0) hm0 hm hp0 ht4 hl0 (Nat.zero_le _)) (nR_of (by decide)) (cc_197 Λ X Y) rfl gL_sound_X4_count rfl rfl rfl hd_X4_count ⟨by decide, by decide⟩ rfl rfl (Nat.le_of_ble_eq_true rfl) dL_sound_2 ?_
  refine v_topi (y := nI m) (ct_0 X m t 0) ?_
  refine v_istore_n (lv' := [(3, .int (nI m)), (0, rf Λ 197), (1, rf Λ 204), (2, .int z)]) hC dL_sound_5 (by decide) rfl ?_
  refine v_iconst (v := 0) hC dL_sound_6 (by decide) ?_
  refine v_istore (lv' := [(4, .int 0), (3, .int (nI m)), (0, rf Λ 197), (1, rf Λ 204), (2, .int z)]) hC dL_sound_7 (by decide) rfl ?_
  refine v_iconst (v := 0) hC dL_sound_9 (by decide) ?_
  refine v_istore (lv' := [(5, .int 0), (4, .int 0), (3, .int (nI m)), (0, rf Λ 197), (1, rf Λ 204), (2, .int z)]) hC dL_sound_10 (by decide) rfl ?_
  refine v_iconst (v := 0) hC dL_sound_12 (by decide) ?_
  refine v_istore (lv' := [(6, .int 0), (5, .int 0), (4, .int 0), (3, .int (nI m)), (0, rf Λ 197), (1, rf Λ 204), (2, .int z)]) hC dL_sound_13 (by decide) rfl ?_
  refine v_iconst (v := 0) hC dL_sound_15 (by decide) ?_
  refine v_istore (lv' := [(7, .int 0), (6, .int 0), (5, .int 0), (4, .int 0), (3, .int (nI m)), (0, rf Λ 197), (1, rf Λ 204), (2, .int z)]) hC dL_sound_16 (by decide) rfl ?_
  refine v_iconst (v := 0) hC dL_sound_18 (by decide) ?_
  refine v_istore (lv' := [(8, .int 0), (7, .int 0), (6, .int 0), (5, .int 0), (4, .int 0), (3, .int (nI m)), (0, rf Λ 197), (1, rf Λ 204), (2, .int z)]) hC dL_sound_19 (by decide) rfl ?_
  refine v_iconst (v := 0) hC dL_sound_21 (by decide) ?_
  refine v_istore (lv' := [(9, .int 0), (8, .int 0), (7, .int 0), (6, .int 0), (5, .int 0), (4, .int 0), (3, .int (nI m)), (0, rf Λ 197), (1, rf Λ 204), (2, .int z)]) hC dL_sound_22 (by decide) rfl ?_
  have L24 : ∀ (fu24 : Nat) (q : Nat), q ≤ m → m - q < fu24 → V Λ κ (CC Λ X Y) 24 [(9, .int (nI q)), (8, .int (sumI (fun j => bk3 (X.1 j) 8) q)), (7, .int (sumI (fun j => fd (X.1 j)) q)), (6, .int (sumI (fun j => sz (X.1 j)) q)), (5, .int (sumI (fun j => sumI (fun b => unitsC (X.1 j) b (fk (X.1 j) b)) 8) q)), (4, .int (sumI (fun j => bI (fa (X.1 j))) q)), (3, .int (nI m)), (0, rf Λ 197), (1, rf Λ 204), (2, .int z)] [] := by
    intro fu24
    induction fu24 with
    | zero => intro q hq6 hfu24; exact absurd hfu24 (Nat.not_lt_zero _)
    | succ fu24 ih24 =>
      intro q hq6 hfu24
      refine v_iload hC dL_sound_24 0 rfl ?_
      refine v_iload_n hC dL_sound_26 6 rfl ?_
      refine v_icmp_ge (tgt := 188) hC dL_sound_27 (by decide) (fun c27 => ?_) (fun c27 => ?_)
      · have g27 : m ≤ q := (nI_leI (a := m) (b := q) (by omega) (by omega)).mp c27
        have ee : m = q := by omega
        subst ee
        refine v_args (lv' := [(9, .int (nI m)), (8, .int (sumI (fun j => bk3 (X.1 j) 8) m)), (7, .int (sumI (fun j => fd (X.1 j)) m)), (6, .int (nI (tA X m))), (5, .int (sumI (fun j => sumI (fun b => unitsC (X.1 j) b (fk (X.1 j) b)) 8) m)), (4, .int (sumI (fun j => bI (fa (X.1 j))) m)), (3, .int (nI m)), (0, rf Λ 197), (1, rf Λ 204), (2, .int z)]) (by rw [hT]) ?_
        refine v_aload_n hC dL_sound_188 7 rfl ?_
        refine v_callVr (v := .int (mhO (hF X 0) m 32 0 (-5) 0)) (C2 := CC Λ X Y) (As := []) (rest := []) hC 0 197 (c_X4_most Λ X Y hm0 hm) (nR_of (by decide)) (cc_197 Λ X Y) rfl gL_sound_X4_most rfl rfl rfl hd_X4_most ⟨by decide, by decide⟩ rfl rfl (Nat.le_of_ble_eq_true rfl) dL_sound_189 ?_
        refine v_istore (lv' := [(9, .int (mhO (hF X 0) m 32 0 (-5) 0)), (8, .int (sumI (fun j => bk3 (X.1 j) 8) m)), (7, .int (sumI (fun j => fd (X.1 j)) m)), (6, .int (nI (tA X m))), (5, .int (sumI (fun j => sumI (fun b => unitsC (X.1 j) b (fk (X.1 j) b)) 8) m)), (4, .int (sumI (fun j => bI (fa (X.1 j))) m)), (3, .int (nI m)), (0, rf Λ 197), (1, rf Λ 204), (2, .int z)]) hC dL_sound_192 (by decide) rfl ?_
        refine v_aload_n hC dL_sound_194 7 rfl ?_
        refine v_bipush (v := 7) hC dL_sound_195 (by decide) ?_
        refine v_callVr (v := .int (cntC X m t 0 7)) (C2 := CC Λ X Y) (As := [.int 7]) (rest := []) hC 1 197 (c_X4_count Λ X Y (v := 7) hm0 hm hp0 ht4 hl0 (Nat.zero_le _)) (nR_of (by decide)) (cc_197 Λ X Y) rfl gL_sound_X4_count rfl rfl rfl hd_X4_count ⟨by decide, by decide⟩ rfl rfl (Nat.le_of_ble_eq_true rfl) dL_sound_197 ?_
        refine v_topi (y := nI (dA X m)) (diff_T X m t 0) ?_
        refine v_istore (lv' := [(10, .int (nI (dA X m))), (9, .int (mhO (hF X 0) m 32 0 (-5) 0)), (8, .int (sumI (fun j => bk3 (X.1 j) 8) m)), (7, .int (sumI (fun j => fd (X.1 j)) m)), (6, .int (nI (tA X m))), (5, .int (sumI (fun j => sumI (fun b => unitsC (X.1 j) b (fk (X.1 j) b)) 8) m)), (4, .int (sumI (fun j => bI (fa (X.1 j))) m)), (3, .int (nI m)), (0, rf Λ 197), (1, rf Λ 204), (2, .int z)]) hC dL_sound_200 (by decide) rfl ?_
        refine v_aload_n hC dL_sound_202 8 rfl ?_
        refine v_iconst (v := 1) hC dL_sound_203 (by decide) ?_
        refine v_callVr (v := .int (cntC X m t 0 1)) (C2 := CC Λ X Y) (As := [.int 1]) (rest := []) hC 1 197 (c_X4_count Λ X Y (v := 1) hm0 hm hp0 ht4 hl0 (Nat.zero_le _)) (nR_of (by decide)) (cc_197 Λ X Y) rfl gL_sound_X4_count rfl rfl rfl hd_X4_count ⟨by decide, by decide⟩ rfl rfl (Nat.le_of_ble_eq_true rfl) dL_sound_204 ?_
        refine v_topi (y := sumI (fun j => bI (fa (X.1 j))) m) (by rw [ct_1, hF_0]) ?_
        refine v_iload hC dL_sound_207 6 rfl ?_
        refine v_icmp_ne (tgt := 356) hC dL_sound_209 (by decide) (fun zz => absurd rfl zz) (fun _ => ?_)
        refine v_aload_n hC dL_sound_212 8 rfl ?_
        refine v_iconst (v := 2) hC dL_sound_213 (by decide) ?_
        refine v_callVr (v := .int (cntC X m t 0 2)) (C2 := CC Λ X Y) (As := [.int 2]) (rest := []) hC 1 197 (c_X4_count Λ X Y (v := 2) hm0 hm hp0 ht4 hl0 (Nat.zero_le _)) (nR_of (by decide)) (cc_197 Λ X Y) rfl gL_sound_X4_count rfl rfl rfl hd_X4_count ⟨by decide, by decide⟩ rfl rfl (Nat.le_of_ble_eq_true rfl) dL_sound_214 ?_
        refine v_topi (y := sumI (fun j => bkC (X.1 j) 0 8) m) (by rw [ct_2, hF_0]) ?_
        refine v_aload_n hC dL_sound_217 8 rfl ?_
        refine v_iconst (v := 3) hC dL_sound_218 (by decide) ?_
        refine v_callVr (v := .int (cntC X m t 0 3)) (C2 := CC Λ X Y) (As := [.int 3]) (rest := [.int (sumI (fun j => bkC (X.1 j) 0 8) m)]) hC 1 197 (c_X4_count Λ X Y (v := 3) hm0 hm hp0 ht4 hl0 (Nat.zero_le _)) (nR_of (by decide)) (cc_197 Λ X Y) rfl gL_sound_X4_count rfl rfl rfl hd_X4_count ⟨by decide, by decide⟩ rfl rfl (Nat.le_of_ble_eq_true rfl) dL_sound_219 ?_
        refine v_topi (y := sumI (fun j => bkC (X.1 j) 1 8) m) (by rw [ct_3, hF_0]) ?_
        refine v_iadd (x := sumI (fun j => bkC (X.1 j) 0 8) m) (y := sumI (fun j => bkC (X.1 j) 1 8) m) hC dL_sound_222 ?_
        refine v_aload_n hC dL_sound_223 8 rfl ?_
        refine v_iconst (v := 4) hC dL_sound_224 (by decide) ?_
        refine v_callVr (v := .int (cntC X m t 0 4)) (C2 := CC Λ X Y) (As := [.int 4]) (rest := [.int ((sumI (fun j => bkC (X.1 j) 0 8) m) + (sumI (fun j => bkC (X.1 j) 1 8) m))]) hC 1 197 (c_X4_count Λ X Y (v := 4) hm0 hm hp0 ht4 hl0 (Nat.zero_le _)) (nR_of (by decide)) (cc_197 Λ X Y) rfl gL_sound_X4_count rfl rfl rfl hd_X4_count ⟨by decide, by decide⟩ rfl rfl (Nat.le_of_ble_eq_true rfl) dL_sound_225 ?_
        refine v_topi (y := sumI (fun j => bkC (X.1 j) 2 8) m) (by rw [ct_4, hF_0]) ?_
        refine v_iadd (x := (sumI (fun j => bkC (X.1 j) 0 8) m) + (sumI (fun j => bkC (X.1 j) 1 8) m)) (y := sumI (fun j => bkC (X.1 j) 2 8) m) hC dL_sound_228 ?_
        refine v_topi (y := sumI (fun j => bk3 (X.1 j) 8) m) (by rw [sum_add3]; rfl) ?_
        refine v_iload hC dL_sound_229 2 rfl ?_
        refine v_icmp_ne (tgt := 356) hC dL_sound_231 (by decide) (fun zz => absurd rfl zz) (fun _ => ?_)
        refine v_aload_n hC dL_sound_234 8 rfl ?_
        refine v_iconst (v := 5) hC dL_sound_235 (by decide) ?_
        refine v_callVr (v := .int (cntC X m t 0 5)) (C2 := CC Λ X Y) (As := [.int 5]) (rest := []) hC 1 197 (c_X4_count Λ X Y (v := 5) hm0 hm hp0 ht4 hl0 (Nat.zero_le _)) (nR_of (by decide)) (cc_197 Λ X Y) rfl gL_sound_X4_count rfl rfl rfl hd_X4_count ⟨by decide, by decide⟩ rfl rfl (Nat.le_of_ble_eq_true rfl) dL_sound_236 ?_
        refine v_topi (y := sumI (fun j => sumI (fun b => unitsC (X.1 j) b (fk (X.1 j) b)) 8) m) (by rw [ct_5, hF_0]) ?_
        refine v_iload hC dL_sound_239 5 rfl ?_
        refine v_icmp_ne (tgt := 356) hC dL_sound_241 (by decide) (fun zz => absurd rfl zz) (fun _ => ?_)
        refine v_aload_n hC dL_sound_244 8 rfl ?_
        refine v_bipush (v := 6) hC dL_sound_245 (by decide) ?_
        refine v_callVr (v := .int (cntC X m t 0 6)) (C2 := CC Λ X Y) (As := [.int 6]) (rest := []) hC 1 197 (c_X4_count Λ X Y (v := 6) hm0 hm hp0 ht4 hl0 (Nat.zero_le _)) (nR_of (by decide)) (cc_197 Λ X Y) rfl gL_sound_X4_count rfl rfl rfl hd_X4_count ⟨by decide, by decide⟩ rfl rfl (Nat.le_of_ble_eq_true rfl) dL_sound_247 ?_
        refine v_topi (y := nI (tA X m)) (by rw [ct_6, hF_0]; exact hT) ?_
        refine v_iload hC dL_sound_250 4 rfl ?_
        refine v_icmp_ne (tgt := 356) hC dL_sound_252 (by decide) (fun zz => absurd rfl zz) (fun _ => ?_)
        refine v_aload_n hC dL_sound_255 8 rfl ?_
        refine v_bipush (v := 8) hC dL_sound_256 (by decide) ?_
        refine v_callVr (v := .int (cntC X m t 0 8)) (C2 := CC Λ X Y) (As := [.int 8]) (rest := []) hC 1 197 (c_X4_count Λ X Y (v := 8) hm0 hm hp0 ht4 hl0 (Nat.zero_le _)) (nR_of (by decide)) (cc_197 Λ X Y) rfl gL_sound_X4_count rfl rfl rfl hd_X4_count ⟨by decide, by decide⟩ rfl rfl (Nat.le_of_ble_eq_true rfl) dL_sound_258 ?_
        refine v_topi (y := sumI (fun j => fd (X.1 j)) m) (by rw [ct_8, hF_0]) ?_
        refine v_iload hC dL_sound_261 3 rfl ?_
        refine v_icmp_ne (tgt := 356) hC dL_sound_263 (by decide) (fun zz => absurd rfl zz) (fun _ => ?_)
        have J291 : V Λ κ (CC Λ X Y) 291 [(10, .int (nI (dA X m))), (6, .int (nI (tA X m))), (3, .int (nI m)), (0, rf Λ 197), (1, rf Λ 204), (2, .int z)] [] := by
          refine v_iload hC dL_sound_291 0 rfl ?_
          refine v_iload hC dL_sound_293 1 rfl ?_
          refine v_icmp_gt (tgt := 356) hC dL_sound_295 (by decide) (fun zz => absurd zz (show ¬ nI (tA X m) < nI (dA X m) from fun z => by have := (nI_ltI (by omega) (by omega)).mp z; omega)) (fun _ => ?_)
          refine v_iload hC dL_sound_298 0 rfl ?_
          refine v_iload_n hC dL_sound_300 2 rfl ?_
          refine v_imul (x := nI (dA X m)) (y := nI m) hC dL_sound_301 ?_
          refine v_topi (y := nI (dA X m * m)) (pk_mul (dA X m) m) ?_
          refine v_iload hC dL_sound_302 1 rfl ?_
          refine v_icmp_lt (tgt := 356) hC dL_sound_304 (by decide) (fun zz => absurd zz (show ¬ nI (dA X m * m) < nI (tA X m) from fun z => by have z2 : dA X m * m ≤ 2048 * 6 := Nat.mul_le_mul d3 hm; have := (nI_ltI (by omega) (by omega)).mp z; omega)) (fun _ => ?_)
          have J352 : V Λ κ (CC Λ X Y) 352 [(0, rf Λ 197), (1, rf Λ 204)] [] := by
            refine v_iconst (v := 1) hC dL_sound_352 (by decide) ?_
            refine v_goto (tgt := 357) hC dL_sound_353 (by decide) ?_
            exact v_zret hC hR rfl rfl rfl dL_sound_357
          refine v_iload hC dL_sound_307 1 rfl ?_
          refine v_if_eq (tgt := 352) hC dL_sound_309 (by decide) (fun c309 => ?_) (fun c309 => ?_)
          · refine v_sub (lv' := [(0, rf Λ 197), (1, rf Λ 204)]) [3, 4] rfl ?_
            exact J352
          · have hT0 : 0 < tA X m := Nat.pos_of_ne_zero (fun z => c309 (by rw [z]; rfl))
            refine v_aload_n hC dL_sound_312 3 rfl ?_
            refine v_iload hC dL_sound_313 1 rfl ?_
            refine v_callVr (v := .int (allC X m (nI (tA X m)))) (C2 := CC Λ X Y) (As := [.int (nI (tA X m))]) (rest := []) hC 1 197 (c_X4_ofAll Λ X Y (p := nI (tA X m)) hm0 hm) (nR_of (by decide)) (cc_197 Λ X Y) rfl gL_sound_X4_ofAll rfl rfl rfl hd_X4_ofAll ⟨by decide, by decide⟩ rfl rfl (Nat.le_of_ble_eq_true rfl) dL_sound_315 ?_
            refine v_topi (y := (-5)) (all_end hm) ?_
            refine v_bipush (v := (-5)) hC dL_sound_318 (by decide) ?_
            refine v_icmp_ne (tgt := 356) hC dL_sound_320 (by decide) (fun zz => absurd rfl zz) (fun _ => ?_)
            refine v_aload_n hC dL_sound_323 3 rfl ?_
            refine v_iconst (v := 0) hC dL_sound_324 (by decide) ?_
            refine v_callVr (v := .int (allC X m 0)) (C2 := CC Λ X Y) (As := [.int 0]) (rest := []) hC 1 197 (c_X4_ofAll Λ X Y (p := 0) hm0 hm) (nR_of (by decide)) (cc_197 Λ X Y) rfl gL_sound_X4_ofAll rfl rfl rfl hd_X4_ofAll ⟨by decide, by decide⟩ rfl rfl (Nat.le_of_ble_eq_true rfl) dL_sound_325 ?_
            refine v_topi (y := nI v) (all_0 hm hT0 v3) ?_
            refine v_aload_n hC dL_sound_328 3 rfl ?_
            refine v_iload_n hC dL_sound_329 2 rfl ?_
            refine v_callSr (v := .int (lsI X m)) (C2 := CC Λ X Y) (As := [rf Λ 197, .int (nI m)]) (rest := [.int (nI v)]) hC 2 (c_L_least Λ X Y hm0 hm) gL_sound_L_least rfl rfl rfl hd_L_least ⟨by decide, by decide⟩ rfl rfl (Nat.le_of_ble_eq_true rfl) dL_sound_330 ?_
            refine v_topi (y := nI v) v2 ?_
            refine v_icmp_ne (tgt := 356) hC dL_sound_333 (by decide) (fun zz => absurd rfl zz) (fun _ => ?_)
            refine v_aload_n hC dL_sound_336 3 rfl ?_
            refine v_iload hC dL_sound_337 1 rfl ?_
            refine v_iconst (v := 1) hC dL_sound_339 (by decide) ?_
            refine v_isub (x := nI (tA X m)) (y := 1) hC dL_sound_340 ?_
            refine v_topi (y := nI (tA X m - 1)) (pk_sub (b := 1) hT0) ?_
            refine v_callVr (v := .int (allC X m (nI (tA X m - 1)))) (C2 := CC Λ X Y) (As := [.int (nI (tA X m - 1))]) (rest := []) hC 1 197 (c_X4_ofAll Λ X Y (p := nI (tA X m - 1)) hm0 hm) (nR_of (by decide)) (cc_197 Λ X Y) rfl gL_sound_X4_ofAll rfl rfl rfl hd_X4_ofAll ⟨by decide, by decide⟩ rfl rfl (Nat.le_of_ble_eq_true rfl) dL_sound_341 ?_
            refine v_aload_n hC dL_sound_344 3 rfl ?_
            refine v_iconst (v := 0) hC dL_sound_345 (by decide) ?_
            refine v_callVr (v := .int (allC X m 0)) (C2 := CC Λ X Y) (As := [.int 0]) (rest := [.int (allC X m (nI (tA X m - 1)))]) hC 1 197 (c_X4_ofAll Λ X Y (p := 0) hm0 hm) (nR_of (by decide)) (cc_197 Λ X Y) rfl gL_sound_X4_ofAll rfl rfl rfl hd_X4_ofAll ⟨by decide, by decide⟩ rfl rfl (Nat.le_of_ble_eq_true rfl) dL_sound_346 ?_
            refine v_topi (y := nI v) (all_0 hm hT0 v3) ?_
            refine v_icmp_lt (tgt := 356) hC dL_sound_349 (by decide) (fun zz => absurd zz (Int32.not_lt.mpr (all_last hm hT0 v3))) (fun _ => ?_)
            refine v_sub (lv' := [(0, rf Λ 197), (1, rf Λ 204)]) [3, 4] rfl ?_
            exact J352
        refine v_iload hC dL_sound_266 1 rfl ?_
        refine v_bipush (v := (-5)) hC dL_sound_268 (by decide) ?_
        refine v_icmp_ne (tgt := 277) hC dL_sound_270 (by decide) (fun c270 => ?_) (fun c270 => ?_)
        · refine v_iconst (v := 0) hC dL_sound_277 (by decide) ?_
          refine v_iload hC dL_sound_278 4 rfl ?_
          refine v_if_ne (tgt := 287) hC dL_sound_280 (by decide) (fun _ => ?_) (fun zz => absurd zz (show ¬ nI (tA X m) = 0 from fun z => c270 (d4.mpr ((nI_z (by omega)).mp z))))
          refine v_iconst (v := 0) hC dL_sound_287 (by decide) ?_
          refine v_icmp_ne (tgt := 356) hC dL_sound_288 (by decide) (fun zz => absurd rfl zz) (fun _ => ?_)
          refine v_sub (lv' := [(10, .int (nI (dA X m))), (6, .int (nI (tA X m))), (3, .int (nI m)), (0, rf Λ 197), (1, rf Λ 204), (2, .int z)]) [0, 4, 7, 8, 9, 10] rfl ?_
          exact J291
        · refine v_iconst (v := 1) hC dL_sound_273 (by decide) ?_
          refine v_goto (tgt := 278) hC dL_sound_274 (by decide) ?_
          refine v_iload hC dL_sound_278 4 rfl ?_
          refine v_if_ne (tgt := 287) hC dL_sound_280 (by decide) (fun zz => absurd (show nI (tA X m) = 0 by rw [d4.mp c270]; rfl) zz) (fun _ => ?_)
          refine v_iconst (v := 1) hC dL_sound_283 (by decide) ?_
          refine v_goto (tgt := 288) hC dL_sound_284 (by decide) ?_
          refine v_icmp_ne (tgt := 356) hC dL_sound_288 (by decide) (fun zz => absurd rfl zz) (fun _ => ?_)
          refine v_sub (lv' := [(10, .int (nI (dA X m))), (6, .int (nI (tA X m))), (3, .int (nI m)), (0, rf Λ 197), (1, rf Λ 204), (2, .int z)]) [0, 4, 7, 8, 9, 10] rfl ?_
          exact J291
      · have g27 : q < m := Nat.lt_of_not_le (fun z => c27 ((nI_leI (a := m) (b := q) (by omega) (by omega)).mpr z))
        refine v_aload_n hC dL_sound_30 7 rfl ?_
        refine v_iload hC dL_sound_31 0 rfl ?_
        refine v_callSr (v := .int 1) (C2 := CC Λ X Y) (As := [rf Λ 197, .int (nI q)]) (rest := []) hC 2 (c_L_boats Λ X Y hm0 hm g27 (h.2.1 q g27).1) gL_sound_L_boats rfl rfl rfl hd_L_boats ⟨by decide, by decide⟩ rfl rfl (Nat.le_of_ble_eq_true rfl) dL_sound_33 ?_
        refine v_if_eq (tgt := 120) hC dL_sound_36 (by decide) (fun zz => absurd zz (show ¬ (1 : Int32) = 0 by decide)) (fun _ => ?_)
        refine v_aload_n hC dL_sound_39 7 rfl ?_
        refine v_iload hC dL_sound_40 0 rfl ?_
        refine v_iload_n hC dL_sound_42 9 rfl ?_
        refine v_sipush (v := 2048) hC dL_sound_43 (by decide) ?_
        refine v_topi (y := nI 2048) rfl ?_
        refine v_callSr (v := .int (nI (upN z 2048))) (C2 := CC Λ X Y) (As := [.int z, .int (nI 2048)]) (rest := [.int (nI q), rf Λ 197]) hC 2 (c_L_up Λ X Y (x := z) (n := 2048) (by decide) (by decide)) gL_sound_L_up rfl rfl rfl hd_L_up ⟨by decide, by decide⟩ rfl rfl (Nat.le_of_ble_eq_true rfl) dL_sound_46 ?_
        refine v_callSr (v := .int 1) (C2 := CC Λ X Y) (As := [rf Λ 197, .int (nI q), .int (nI (upN z 2048))]) (rest := []) hC 3 (c_L_places Λ X Y hm0 hm g27 (h.2.1 q g27).1 (upN_lt _ (by decide))) gL_sound_L_places rfl rfl rfl hd_L_places ⟨by decide, by decide⟩ rfl rfl (Nat.le_of_ble_eq_true rfl) dL_sound_49 ?_
        refine v_if_eq (tgt := 120) hC dL_sound_52 (by decide) (fun zz => absurd zz (show ¬ (1 : Int32) = 0 by decide)) (fun _ => ?_)
        refine v_aload_n hC dL_sound_55 7 rfl ?_
        refine v_iload hC dL_sound_56 0 rfl ?_
        refine v_iload_n hC dL_sound_58 9 rfl ?_
        refine v_bipush (v := 9) hC dL_sound_59 (by decide) ?_
        refine v_ishr (x := z) (y := 9) hC dL_sound_61 ?_
        refine v_sipush (v := 2048) hC dL_sound_62 (by decide) ?_
        refine v_topi (y := nI 2048) rfl ?_
        refine v_callSr (v := .int (nI (upN (z >>> (9 &&& 31)) 2048))) (C2 := CC Λ X Y) (As := [.int (z >>> (9 &&& 31)), .int (nI 2048)]) (rest := [.int (nI q), rf Λ 197]) hC 2 (c_L_up Λ X Y (x := z >>> (9 &&& 31)) (n := 2048) (by decide) (by decide)) gL_sound_L_up rfl rfl rfl hd_L_up ⟨by decide, by decide⟩ rfl rfl (Nat.le_of_ble_eq_true rfl) dL_sound_65 ?_
        refine v_callSr (v := .int 1) (C2 := CC Λ X Y) (As := [rf Λ 197, .int (nI q), .int (nI (upN (z >>> (9 &&& 31)) 2048))]) (rest := []) hC 3 (c_L_places Λ X Y hm0 hm g27 (h.2.1 q g27).1 (upN_lt _ (by decide))) gL_sound_L_places rfl rfl rfl hd_L_places ⟨by decide, by decide⟩ rfl rfl (Nat.le_of_ble_eq_true rfl) dL_sound_68 ?_
        refine v_if_eq (tgt := 120) hC dL_sound_71 (by decide) (fun zz => absurd zz (show ¬ (1 : Int32) = 0 by decide)) (fun _ => ?_)
        refine v_aload_n hC dL_sound_74 7 rfl ?_
        refine v_iload hC dL_sound_75 0 rfl ?_
        refine v_iload_n hC dL_sound_77 9 rfl ?_
        refine v_iload_n hC dL_sound_78 6 rfl ?_
        refine v_callSr (v := .int (nI (upN z m))) (C2 := CC Λ X Y) (As := [.int z, .int (nI m)]) (rest := [.int (nI q), rf Λ 197]) hC 2 (c_L_up Λ X Y (x := z) (n := m) (by omega) (by omega)) gL_sound_L_up rfl rfl rfl hd_L_up ⟨by decide, by decide⟩ rfl rfl (Nat.le_of_ble_eq_true rfl) dL_sound_79 ?_
        refine v_callSr (v := .int 1) (C2 := CC Λ X Y) (As := [rf Λ 197, .int (nI q), .int (nI (upN z m))]) (rest := []) hC 3 (c_L_pairs Λ X Y hm0 hm g27 (upN_lt z h1) (h.2.1 q g27).1 (h.2.1 _ (upN_lt z h1)).1) gL_sound_L_pairs rfl rfl rfl hd_L_pairs ⟨by decide, by decide⟩ rfl rfl (Nat.le_of_ble_eq_true rfl) dL_sound_82 ?_
        refine v_if_eq (tgt := 120) hC dL_sound_85 (by decide) (fun zz => absurd zz (show ¬ (1 : Int32) = 0 by decide)) (fun _ => ?_)
        refine v_aload_n hC dL_sound_88 7 rfl ?_
        refine v_iload hC dL_sound_89 0 rfl ?_
        refine v_iconst (v := 3) hC dL_sound_91 (by decide) ?_
        refine v_callVr (v := .int (setC X m (nI q) 3)) (C2 := CC Λ X Y) (As := [.int (nI q), .int 3]) (rest := []) hC 2 197 (c_X4_set Λ X Y (s := nI q) (v := 3) hm0 hm) (nR_of (by decide)) (cc_197 Λ X Y) rfl gL_sound_X4_set rfl rfl rfl hd_X4_set ⟨by decide, by decide⟩ rfl rfl (Nat.le_of_ble_eq_true rfl) dL_sound_92 ?_
        refine v_topi (y := fp (X.1 q)) ((sT q g27 3).trans (se_3 _)) ?_
        refine v_aload_n hC dL_sound_95 7 rfl ?_
        refine v_iload hC dL_sound_96 0 rfl ?_
        refine v_iconst (v := 5) hC dL_sound_98 (by decide) ?_
        refine v_callVr (v := .int (setC X m (nI q) 5)) (C2 := CC Λ X Y) (As := [.int (nI q), .int 5]) (rest := [.int (fp (X.1 q))]) hC 2 197 (c_X4_set Λ X Y (s := nI q) (v := 5) hm0 hm) (nR_of (by decide)) (cc_197 Λ X Y) rfl gL_sound_X4_set rfl rfl rfl hd_X4_set ⟨by decide, by decide⟩ rfl rfl (Nat.le_of_ble_eq_true rfl) dL_sound_99 ?_
        refine v_topi (y := fd (X.1 q)) ((sT q g27 5).trans (se_5 _)) ?_
        refine v_iadd (x := fp (X.1 q)) (y := fd (X.1 q)) hC dL_sound_102 ?_
        refine v_aload_n hC dL_sound_103 8 rfl ?_
        refine v_iload hC dL_sound_104 0 rfl ?_
        refine v_iald hC 204 (nR_of (by decide)) (cc_204 Λ X Y) q rfl (by omega) (by decide) dL_sound_106 ?_
        refine v_icmp_ne (tgt := 120) hC dL_sound_107 (by decide) (fun zz => absurd ((h.2.1 q g27).2.symm) zz) (fun _ => ?_)
        refine v_aload_n hC dL_sound_110 7 rfl ?_
        refine v_iload hC dL_sound_111 0 rfl ?_
        refine v_iconst (v := 3) hC dL_sound_113 (by decide) ?_
        refine v_callVr (v := .int (setC X m (nI q) 3)) (C2 := CC Λ X Y) (As := [.int (nI q), .int 3]) (rest := []) hC 2 197 (c_X4_set Λ X Y (s := nI q) (v := 3) hm0 hm) (nR_of (by decide)) (cc_197 Λ X Y) rfl gL_sound_X4_set rfl rfl rfl hd_X4_set ⟨by decide, by decide⟩ rfl rfl (Nat.le_of_ble_eq_true rfl) dL_sound_114 ?_
        refine v_topi (y := fp (X.1 q)) ((sT q g27 3).trans (se_3 _)) ?_
        refine v_if_ge (tgt := 122) hC dL_sound_117 (by decide) (fun _ => ?_) (fun zz => absurd (show 0 ≤ fp (X.1 q) from by obtain ⟨p, p1, p2⟩ := (h.2.1 q g27).1.2.2.1; rw [p2]; exact nI_pos' (by omega)) zz)
        refine v_iload hC dL_sound_122 5 rfl ?_
        refine v_aload_n hC dL_sound_124 7 rfl ?_
        refine v_iload hC dL_sound_125 0 rfl ?_
        refine v_iconst (v := 4) hC dL_sound_127 (by decide) ?_
        refine v_callVr (v := .int (setC X m (nI q) 4)) (C2 := CC Λ X Y) (As := [.int (nI q), .int 4]) (rest := [.int (sumI (fun j => bI (fa (X.1 j))) q)]) hC 2 197 (c_X4_set Λ X Y (s := nI q) (v := 4) hm0 hm) (nR_of (by decide)) (cc_197 Λ X Y) rfl gL_sound_X4_set rfl rfl rfl hd_X4_set ⟨by decide, by decide⟩ rfl rfl (Nat.le_of_ble_eq_true rfl) dL_sound_128 ?_
        refine v_topi (y := bI (fa (X.1 q))) ((sT q g27 4).trans (se_4 _)) ?_
        refine v_iadd (x := sumI (fun j => bI (fa (X.1 j))) q) (y := bI (fa (X.1 q))) hC dL_sound_131 ?_
        refine v_topi (y := sumI (fun j => bI (fa (X.1 j))) (q + 1)) rfl ?_
        refine v_istore (lv' := [(4, .int (sumI (fun j => bI (fa (X.1 j))) (q + 1))), (9, .int (nI q)), (8, .int (sumI (fun j => bk3 (X.1 j) 8) q)), (7, .int (sumI (fun j => fd (X.1 j)) q)), (6, .int (sumI (fun j => sz (X.1 j)) q)), (5, .int (sumI (fun j => sumI (fun b => unitsC (X.1 j) b (fk (X.1 j) b)) 8) q)), (3, .int (nI m)), (0, rf Λ 197), (1, rf Λ 204), (2, .int z)]) hC dL_sound_132 (by decide) rfl ?_
        refine v_iload hC dL_sound_134 5 rfl ?_
        refine v_aload_n hC dL_sound_136 7 rfl ?_
        refine v_iload hC dL_sound_137 1 rfl ?_
        refine v_iconst (v := 2) hC dL_sound_139 (by decide) ?_
        refine v_callVr (v := .int (setC X m (nI q) 2)) (C2 := CC Λ X Y) (As := [.int (nI q), .int 2]) (rest := [.int (sumI (fun j => sumI (fun b => unitsC (X.1 j) b (fk (X.1 j) b)) 8) q)]) hC 2 197 (c_X4_set Λ X Y (s := nI q) (v := 2) hm0 hm) (nR_of (by decide)) (cc_197 Λ X Y) rfl gL_sound_X4_set rfl rfl rfl hd_X4_set ⟨by decide, by decide⟩ rfl rfl (Nat.le_of_ble_eq_true rfl) dL_sound_140 ?_
        refine v_topi (y := sumI (fun b => unitsC (X.1 q) b (fk (X.1 q) b)) 8) ((sT q g27 2).trans (se_2 _)) ?_
        refine v_iadd (x := sumI (fun j => sumI (fun b => unitsC (X.1 j) b (fk (X.1 j) b)) 8) q) (y := sumI (fun b => unitsC (X.1 q) b (fk (X.1 q) b)) 8) hC dL_sound_143 ?_
        refine v_topi (y := sumI (fun j => sumI (fun b => unitsC (X.1 j) b (fk (X.1 j) b)) 8) (q + 1)) rfl ?_
        refine v_istore (lv' := [(5, .int (sumI (fun j => sumI (fun b => unitsC (X.1 j) b (fk (X.1 j) b)) 8) (q + 1))), (4, .int (sumI (fun j => bI (fa (X.1 j))) (q + 1))), (9, .int (nI q)), (8, .int (sumI (fun j => bk3 (X.1 j) 8) q)), (7, .int (sumI (fun j => fd (X.1 j)) q)), (6, .int (sumI (fun j => sz (X.1 j)) q)), (3, .int (nI m)), (0, rf Λ 197), (1, rf Λ 204), (2, .int z)]) hC dL_sound_144 (by decide) rfl ?_
        refine v_iload hC dL_sound_146 5 rfl ?_
        refine v_aload_n hC dL_sound_148 7 rfl ?_
        refine v_iload hC dL_sound_149 2 rfl ?_
        refine v_iconst (v := 0) hC dL_sound_151 (by decide) ?_
        refine v_callVr (v := .int (setC X m (nI q) 0)) (C2 := CC Λ X Y) (As := [.int (nI q), .int 0]) (rest := [.int (sumI (fun j => sz (X.1 j)) q)]) hC 2 197 (c_X4_set Λ X Y (s := nI q) (v := 0) hm0 hm) (nR_of (by decide)) (cc_197 Λ X Y) rfl gL_sound_X4_set rfl rfl rfl hd_X4_set ⟨by decide, by decide⟩ rfl rfl (Nat.le_of_ble_eq_true rfl) dL_sound_152 ?_
        refine v_topi (y := sz (X.1 q)) ((sT q g27 0).trans (se_0 _)) ?_
        refine v_iadd (x := sumI (fun j => sz (X.1 j)) q) (y := sz (X.1 q)) hC dL_sound_155 ?_
        refine v_topi (y := sumI (fun j => sz (X.1 j)) (q + 1)) rfl ?_
        refine v_istore (lv' := [(6, .int (sumI (fun j => sz (X.1 j)) (q + 1))), (5, .int (sumI (fun j => sumI (fun b => unitsC (X.1 j) b (fk (X.1 j) b)) 8) (q + 1))), (4, .int (sumI (fun j => bI (fa (X.1 j))) (q + 1))), (9, .int (nI q)), (8, .int (sumI (fun j => bk3 (X.1 j) 8) q)), (7, .int (sumI (fun j => fd (X.1 j)) q)), (3, .int (nI m)), (0, rf Λ 197), (1, rf Λ 204), (2, .int z)]) hC dL_sound_156 (by decide) rfl ?_
        refine v_iload hC dL_sound_158 5 rfl ?_
        refine v_aload_n hC dL_sound_160 7 rfl ?_
        refine v_iload hC dL_sound_161 3 rfl ?_
        refine v_iconst (v := 5) hC dL_sound_163 (by decide) ?_
        refine v_callVr (v := .int (setC X m (nI q) 5)) (C2 := CC Λ X Y) (As := [.int (nI q), .int 5]) (rest := [.int (sumI (fun j => fd (X.1 j)) q)]) hC 2 197 (c_X4_set Λ X Y (s := nI q) (v := 5) hm0 hm) (nR_of (by decide)) (cc_197 Λ X Y) rfl gL_sound_X4_set rfl rfl rfl hd_X4_set ⟨by decide, by decide⟩ rfl rfl (Nat.le_of_ble_eq_true rfl) dL_sound_164 ?_
        refine v_topi (y := fd (X.1 q)) ((sT q g27 5).trans (se_5 _)) ?_
        refine v_iadd (x := sumI (fun j => fd (X.1 j)) q) (y := fd (X.1 q)) hC dL_sound_167 ?_
        refine v_topi (y := sumI (fun j => fd (X.1 j)) (q + 1)) rfl ?_
        refine v_istore (lv' := [(7, .int (sumI (fun j => fd (X.1 j)) (q + 1))), (6, .int (sumI (fun j => sz (X.1 j)) (q + 1))), (5, .int (sumI (fun j => sumI (fun b => unitsC (X.1 j) b (fk (X.1 j) b)) 8) (q + 1))), (4, .int (sumI (fun j => bI (fa (X.1 j))) (q + 1))), (9, .int (nI q)), (8, .int (sumI (fun j => bk3 (X.1 j) 8) q)), (3, .int (nI m)), (0, rf Λ 197), (1, rf Λ 204), (2, .int z)]) hC dL_sound_168 (by decide) rfl ?_
        refine v_iload hC dL_sound_170 5 rfl ?_
        refine v_aload_n hC dL_sound_172 7 rfl ?_
        refine v_iload hC dL_sound_173 4 rfl ?_
        refine v_iconst (v := 1) hC dL_sound_175 (by decide) ?_
        refine v_callVr (v := .int (setC X m (nI q) 1)) (C2 := CC Λ X Y) (As := [.int (nI q), .int 1]) (rest := [.int (sumI (fun j => bk3 (X.1 j) 8) q)]) hC 2 197 (c_X4_set Λ X Y (s := nI q) (v := 1) hm0 hm) (nR_of (by decide)) (cc_197 Λ X Y) rfl gL_sound_X4_set rfl rfl rfl hd_X4_set ⟨by decide, by decide⟩ rfl rfl (Nat.le_of_ble_eq_true rfl) dL_sound_176 ?_
        refine v_topi (y := bk3 (X.1 q) 8) ((sT q g27 1).trans (se_1 _)) ?_
        refine v_iadd (x := sumI (fun j => bk3 (X.1 j) 8) q) (y := bk3 (X.1 q) 8) hC dL_sound_179 ?_
        refine v_topi (y := sumI (fun j => bk3 (X.1 j) 8) (q + 1)) rfl ?_
        refine v_istore (lv' := [(8, .int (sumI (fun j => bk3 (X.1 j) 8) (q + 1))), (7, .int (sumI (fun j => fd (X.1 j)) (q + 1))), (6, .int (sumI (fun j => sz (X.1 j)) (q + 1))), (5, .int (sumI (fun j => sumI (fun b => unitsC (X.1 j) b (fk (X.1 j) b)) 8) (q + 1))), (4, .int (sumI (fun j => bI (fa (X.1 j))) (q + 1))), (9, .int (nI q)), (3, .int (nI m)), (0, rf Λ 197), (1, rf Λ 204), (2, .int z)]) hC dL_sound_180 (by decide) rfl ?_
        refine v_iinc (j := 5) (v := nI (q + 1)) (lv' := [(9, .int (nI (q + 1))), (8, .int (sumI (fun j => bk3 (X.1 j) 8) (q + 1))), (7, .int (sumI (fun j => fd (X.1 j)) (q + 1))), (6, .int (sumI (fun j => sz (X.1 j)) (q + 1))), (5, .int (sumI (fun j => sumI (fun b => unitsC (X.1 j) b (fk (X.1 j) b)) 8) (q + 1))), (4, .int (sumI (fun j => bI (fa (X.1 j))) (q + 1))), (3, .int (nI m)), (0, rf Λ 197), (1, rf Λ 204), (2, .int z)]) hC dL_sound_182 rfl (nI_add q 1) (by decide) rfl ?_
        refine v_goto (tgt := 24) hC dL_sound_185 (by decide) ?_
        refine v_sub (lv' := [(9, .int (nI (q + 1))), (8, .int (sumI (fun j => bk3 (X.1 j) 8) (q + 1))), (7, .int (sumI (fun j => fd (X.1 j)) (q + 1))), (6, .int (sumI (fun j => sz (X.1 j)) (q + 1))), (5, .int (sumI (fun j => sumI (fun b => unitsC (X.1 j) b (fk (X.1 j) b)) 8) (q + 1))), (4, .int (sumI (fun j => bI (fa (X.1 j))) (q + 1))), (3, .int (nI m)), (0, rf Λ 197), (1, rf Λ 204), (2, .int z)]) [0, 1, 2, 3, 4, 5, 6, 7, 8, 9] rfl ?_
        exact ih24 (q + 1) (by omega) (by omega)
  refine v_sub (lv' := [(9, .int 0), (8, .int 0), (7, .int 0), (6, .int 0), (5, .int 0), (4, .int 0), (3, .int (nI m)), (0, rf Λ 197), (1, rf Λ 204), (2, .int z)]) [0, 1, 2, 3, 4, 5, 6, 7, 8, 9] rfl ?_
  exact L24 _ 0 (Nat.zero_le _) (Nat.lt_succ_self _)
