/-! The law: a set's boats -/
theorem hd_L_boats : yL_boats.cls ≠ "java/lang/invoke/MethodHandle" ∧ yL_boats.cls ≠ "java/lang/invoke/VarHandle" ∧ (parseMethodDescriptor yL_boats.desc).map (fun d => d.parameters.length) = some 2 := by decide +kernel
set_option maxHeartbeats 2000000 in
set_option maxRecDepth 100000 in
theorem c_L_boats (Λ : Lk) (X : XS) (Y : YS) {m s : Nat} (hm0 : xh X 0 = nI m) (hm : m ≤ 6) (hs : s < m) (hg : Gd (X.1 s)) : Con Λ yL_boats wsL_boats { frames := 4, cells := 0, slots := 0, locals := 93 } [rf Λ 197, .int (nI s)] (CC Λ X Y) (some (.int 1)) (CC Λ X Y) := by
  refine con_start (cc := cL_boats) (maxL := 13) (ret := (some .boolean)) (by decide) rfl (Nat.le_of_ble_eq_true rfl) ?_
  intro κ hC hR
  have hC : Ok Λ { frames := 4, cells := 0, slots := 0, locals := 93 } cL_boats wsL_boats RL 13 κ := hC
  refine v_args (lv' := [(0, rf Λ 197), (1, .int (nI s))]) rfl ?_
  obtain ⟨f, hf⟩ : ∃ f, X.1 s = f := ⟨_, rfl⟩
  rw [hf] at hg
  have sT : ∀ v, setC X m (nI s) v = setF f v := fun v => by rw [set_T hs hm, hf]
  have rT : ∀ n, n < 2048 → rankC X m (nI s) (nI n) = nI (cnt (fbit (fw f)) 0 n) := fun n hn => by rw [rank_T hs hm hn, hf]
  refine v_iconst (v := 0) hC dL_boats_0 (by decide) ?_
  refine v_istore_n (lv' := [(2, .int 0), (0, rf Λ 197), (1, .int (nI s))]) hC dL_boats_1 (by decide) rfl ?_
  refine v_iconst (v := 0) hC dL_boats_2 (by decide) ?_
  refine v_istore_n (lv' := [(3, .int 0), (2, .int 0), (0, rf Λ 197), (1, .int (nI s))]) hC dL_boats_3 (by decide) rfl ?_
  refine v_iconst (v := 0) hC dL_boats_4 (by decide) ?_
  refine v_istore (lv' := [(4, .int 0), (3, .int 0), (2, .int 0), (0, rf Λ 197), (1, .int (nI s))]) hC dL_boats_5 (by decide) rfl ?_
  refine v_iconst (v := 0) hC dL_boats_7 (by decide) ?_
  refine v_istore (lv' := [(5, .int 0), (4, .int 0), (3, .int 0), (2, .int 0), (0, rf Λ 197), (1, .int (nI s))]) hC dL_boats_8 (by decide) rfl ?_
  refine v_iconst (v := 0) hC dL_boats_10 (by decide) ?_
  refine v_istore (lv' := [(6, .int 0), (5, .int 0), (4, .int 0), (3, .int 0), (2, .int 0), (0, rf Λ 197), (1, .int (nI s))]) hC dL_boats_11 (by decide) rfl ?_
  refine v_iconst (v := 0) hC dL_boats_13 (by decide) ?_
  refine v_istore (lv' := [(7, .int 0), (6, .int 0), (5, .int 0), (4, .int 0), (3, .int 0), (2, .int 0), (0, rf Λ 197), (1, .int (nI s))]) hC dL_boats_14 (by decide) rfl ?_
  have L16 : ∀ (fu16 : Nat) (q : Nat), q ≤ 8 → 8 - q < fu16 → V Λ κ (CC Λ X Y) 16 [(7, .int (nI q)), (6, .int (sumI (fr f) q)), (5, .int (sumI (fun b => unitsC f b (bestC f b)) q)), (4, .int (sumI (fun b => unitsC f b (fk f b)) q)), (3, .int (bk3 f q)), (2, .int (sumI (fs f) q)), (0, rf Λ 197), (1, .int (nI s))] [] := by
    intro fu16
    induction fu16 with
    | zero => intro q hq8 hfu16; exact absurd hfu16 (Nat.not_lt_zero _)
    | succ fu16 ih16 =>
      intro q hq8 hfu16
      refine v_iload hC dL_boats_16 0 rfl ?_
      refine v_bipush (v := 8) hC dL_boats_18 (by decide) ?_
      refine v_icmp_ge (tgt := 318) hC dL_boats_20 (by decide) (fun c20 => ?_) (fun c20 => ?_)
      · have g20 : 8 ≤ q := (nI_leI (a := 8) (b := q) (by decide) (by omega)).mp c20
        have ee : 8 = q := by omega
        subst ee
        refine v_aload_n hC dL_boats_318 6 rfl ?_
        refine v_iload_n hC dL_boats_319 7 rfl ?_
        refine v_iconst (v := 0) hC dL_boats_320 (by decide) ?_
        refine v_callVr (v := .int (setC X m (nI s) 0)) (C2 := CC Λ X Y) (As := [.int (nI s), .int 0]) (rest := []) hC 2 197 (c_X4_set Λ X Y (s := nI s) (v := 0) hm0 hm) (nR_of (by decide)) (cc_197 Λ X Y) rfl gL_boats_X4_set rfl rfl rfl hd_X4_set ⟨by decide, by decide⟩ rfl rfl (Nat.le_of_ble_eq_true rfl) dL_boats_321 ?_
        refine v_topi (y := sumI (fs f) 8) ((sT 0).trans (se_0 f)) ?_
        refine v_iload_n hC dL_boats_324 5 rfl ?_
        refine v_icmp_ne (tgt := 384) hC dL_boats_325 (by decide) (fun h => absurd rfl h) (fun _ => ?_)
        refine v_aload_n hC dL_boats_328 6 rfl ?_
        refine v_iload_n hC dL_boats_329 7 rfl ?_
        refine v_iconst (v := 1) hC dL_boats_330 (by decide) ?_
        refine v_callVr (v := .int (setC X m (nI s) 1)) (C2 := CC Λ X Y) (As := [.int (nI s), .int 1]) (rest := []) hC 2 197 (c_X4_set Λ X Y (s := nI s) (v := 1) hm0 hm) (nR_of (by decide)) (cc_197 Λ X Y) rfl gL_boats_X4_set rfl rfl rfl hd_X4_set ⟨by decide, by decide⟩ rfl rfl (Nat.le_of_ble_eq_true rfl) dL_boats_331 ?_
        refine v_topi (y := bk3 f 8) ((sT 1).trans (se_1 f)) ?_
        refine v_iload_n hC dL_boats_334 4 rfl ?_
        refine v_icmp_ne (tgt := 384) hC dL_boats_335 (by decide) (fun h => absurd rfl h) (fun _ => ?_)
        refine v_aload_n hC dL_boats_338 6 rfl ?_
        refine v_iload_n hC dL_boats_339 7 rfl ?_
        refine v_iconst (v := 2) hC dL_boats_340 (by decide) ?_
        refine v_callVr (v := .int (setC X m (nI s) 2)) (C2 := CC Λ X Y) (As := [.int (nI s), .int 2]) (rest := []) hC 2 197 (c_X4_set Λ X Y (s := nI s) (v := 2) hm0 hm) (nR_of (by decide)) (cc_197 Λ X Y) rfl gL_boats_X4_set rfl rfl rfl hd_X4_set ⟨by decide, by decide⟩ rfl rfl (Nat.le_of_ble_eq_true rfl) dL_boats_341 ?_
        refine v_topi (y := sumI (fun b => unitsC f b (fk f b)) 8) ((sT 2).trans (se_2 f)) ?_
        refine v_iload hC dL_boats_344 3 rfl ?_
        refine v_icmp_ne (tgt := 384) hC dL_boats_346 (by decide) (fun h => absurd rfl h) (fun _ => ?_)
        refine v_aload_n hC dL_boats_349 6 rfl ?_
        refine v_iload_n hC dL_boats_350 7 rfl ?_
        refine v_bipush (v := 9) hC dL_boats_351 (by decide) ?_
        refine v_callVr (v := .int (setC X m (nI s) 9)) (C2 := CC Λ X Y) (As := [.int (nI s), .int 9]) (rest := []) hC 2 197 (c_X4_set Λ X Y (s := nI s) (v := 9) hm0 hm) (nR_of (by decide)) (cc_197 Λ X Y) rfl gL_boats_X4_set rfl rfl rfl hd_X4_set ⟨by decide, by decide⟩ rfl rfl (Nat.le_of_ble_eq_true rfl) dL_boats_353 ?_
        refine v_topi (y := sumI (fun b => unitsC f b (bestC f b)) 8) ((sT 9).trans (se_9 f)) ?_
        refine v_iload hC dL_boats_356 2 rfl ?_
        refine v_icmp_ne (tgt := 384) hC dL_boats_358 (by decide) (fun h => absurd rfl h) (fun _ => ?_)
        refine v_aload_n hC dL_boats_361 6 rfl ?_
        refine v_iload_n hC dL_boats_362 7 rfl ?_
        refine v_bipush (v := 6) hC dL_boats_363 (by decide) ?_
        refine v_callVr (v := .int (setC X m (nI s) 6)) (C2 := CC Λ X Y) (As := [.int (nI s), .int 6]) (rest := []) hC 2 197 (c_X4_set Λ X Y (s := nI s) (v := 6) hm0 hm) (nR_of (by decide)) (cc_197 Λ X Y) rfl gL_boats_X4_set rfl rfl rfl hd_X4_set ⟨by decide, by decide⟩ rfl rfl (Nat.le_of_ble_eq_true rfl) dL_boats_365 ?_
        refine v_topi (y := sumI (fr f) 8) ((sT 6).trans (se_6 f)) ?_
        refine v_iload hC dL_boats_368 1 rfl ?_
        refine v_icmp_ne (tgt := 384) hC dL_boats_370 (by decide) (fun h => absurd rfl h) (fun _ => ?_)
        refine v_iload hC dL_boats_373 2 rfl ?_
        refine v_iload hC dL_boats_375 3 rfl ?_
        refine v_icmp_gt (tgt := 384) hC dL_boats_377 (by decide) (fun h => absurd h (Int32.not_lt.mpr (least_le hg))) (fun _ => ?_)
        refine v_iconst (v := 1) hC dL_boats_380 (by decide) ?_
        refine v_goto (tgt := 385) hC dL_boats_381 (by decide) ?_
        exact v_zret hC hR rfl rfl rfl dL_boats_385
      · have g20 : q < 8 := Nat.lt_of_not_le (fun z => c20 ((nI_leI (a := 8) (b := q) (by decide) (by omega)).mpr z))
        by_cases hc : cm (fw f) q = 0
        · have bz : ∀ v : Int32, ¬ v < 0 → ¬ 5 < v → boatC X m (nI s) (nI q) v = -5 := fun v a c => (boat_E hs hm g20 a c).trans (if_pos (by rw [hf]; exact fs_z hg g20 hc))
          have e2 : sumI (fs f) (q + 1) = sumI (fs f) q := by rw [sumI_s, fs_z hg g20 hc, Int32.add_zero]
          have e3 : bk3 f (q + 1) = bk3 f q := by rw [bk3_s hg g20, if_pos hc]
          have e4 : sumI (fun b => unitsC f b (fk f b)) (q + 1) = sumI (fun b => unitsC f b (fk f b)) q := by rw [sumI_s, un_z hg g20 hc, Int32.add_zero]
          have e5 : sumI (fun b => unitsC f b (bestC f b)) (q + 1) = sumI (fun b => unitsC f b (bestC f b)) q := by rw [sumI_s, ub_z hg g20 hc, Int32.add_zero]
          have e6 : sumI (fr f) (q + 1) = sumI (fr f) q := by rw [sumI_s, fr_z hg g20 hc, Int32.add_zero]
          refine v_aload_n hC dL_boats_23 6 rfl ?_
          refine v_iload_n hC dL_boats_24 7 rfl ?_
          refine v_iload hC dL_boats_25 0 rfl ?_
          refine v_iconst (v := 0) hC dL_boats_27 (by decide) ?_
          refine v_callVr (v := .int (boatC X m (nI s) (nI q) 0)) (C2 := CC Λ X Y) (As := [.int (nI s), .int (nI q), .int 0]) (rest := []) hC 3 197 (c_X4_boat Λ X Y (s := nI s) (b := nI q) (v := 0) hm0 hm) (nR_of (by decide)) (cc_197 Λ X Y) rfl gL_boats_X4_boat rfl rfl rfl hd_X4_boat ⟨by decide, by decide⟩ rfl rfl (Nat.le_of_ble_eq_true rfl) dL_boats_28 ?_
          refine v_topi (y := (-5)) (bz _ (by decide) (by decide)) ?_
          refine v_istore (lv' := [(8, .int (-5)), (7, .int (nI q)), (6, .int (sumI (fr f) q)), (5, .int (sumI (fun b => unitsC f b (bestC f b)) q)), (4, .int (sumI (fun b => unitsC f b (fk f b)) q)), (3, .int (bk3 f q)), (2, .int (sumI (fs f) q)), (0, rf Λ 197), (1, .int (nI s))]) hC dL_boats_31 (by decide) rfl ?_
          refine v_aload_n hC dL_boats_33 7 rfl ?_
          refine v_iload_n hC dL_boats_34 8 rfl ?_
          refine v_iload hC dL_boats_35 1 rfl ?_
          refine v_iconst (v := 1) hC dL_boats_37 (by decide) ?_
          refine v_callVr (v := .int (boatC X m (nI s) (nI q) 1)) (C2 := CC Λ X Y) (As := [.int (nI s), .int (nI q), .int 1]) (rest := []) hC 3 197 (c_X4_boat Λ X Y (s := nI s) (b := nI q) (v := 1) hm0 hm) (nR_of (by decide)) (cc_197 Λ X Y) rfl gL_boats_X4_boat rfl rfl rfl hd_X4_boat ⟨by decide, by decide⟩ rfl rfl (Nat.le_of_ble_eq_true rfl) dL_boats_38 ?_
          refine v_topi (y := (-5)) (bz _ (by decide) (by decide)) ?_
          refine v_istore (lv' := [(9, .int (-5)), (8, .int (-5)), (7, .int (nI q)), (6, .int (sumI (fr f) q)), (5, .int (sumI (fun b => unitsC f b (bestC f b)) q)), (4, .int (sumI (fun b => unitsC f b (fk f b)) q)), (3, .int (bk3 f q)), (2, .int (sumI (fs f) q)), (0, rf Λ 197), (1, .int (nI s))]) hC dL_boats_41 (by decide) rfl ?_
          refine v_aload_n hC dL_boats_43 8 rfl ?_
          refine v_iload_n hC dL_boats_44 9 rfl ?_
          refine v_iload hC dL_boats_45 2 rfl ?_
          refine v_iconst (v := 2) hC dL_boats_47 (by decide) ?_
          refine v_callVr (v := .int (boatC X m (nI s) (nI q) 2)) (C2 := CC Λ X Y) (As := [.int (nI s), .int (nI q), .int 2]) (rest := []) hC 3 197 (c_X4_boat Λ X Y (s := nI s) (b := nI q) (v := 2) hm0 hm) (nR_of (by decide)) (cc_197 Λ X Y) rfl gL_boats_X4_boat rfl rfl rfl hd_X4_boat ⟨by decide, by decide⟩ rfl rfl (Nat.le_of_ble_eq_true rfl) dL_boats_48 ?_
          refine v_topi (y := (-5)) (bz _ (by decide) (by decide)) ?_
          refine v_istore (lv' := [(10, .int (-5)), (9, .int (-5)), (8, .int (-5)), (7, .int (nI q)), (6, .int (sumI (fr f) q)), (5, .int (sumI (fun b => unitsC f b (bestC f b)) q)), (4, .int (sumI (fun b => unitsC f b (fk f b)) q)), (3, .int (bk3 f q)), (2, .int (sumI (fs f) q)), (0, rf Λ 197), (1, .int (nI s))]) hC dL_boats_51 (by decide) rfl ?_
          have J84 : V Λ κ (CC Λ X Y) 84 [(10, .int (-5)), (9, .int (-5)), (8, .int (-5)), (7, .int (nI q)), (6, .int (sumI (fr f) q)), (5, .int (sumI (fun b => unitsC f b (bestC f b)) q)), (4, .int (sumI (fun b => unitsC f b (fk f b)) q)), (3, .int (bk3 f q)), (2, .int (sumI (fs f) q)), (0, rf Λ 197), (1, .int (nI s))] [.int (nI (cnt (fbit (fw f)) 0 (256 * q + 256)))] := by
            refine v_aload_n hC dL_boats_84 9 rfl ?_
            refine v_iload_n hC dL_boats_85 10 rfl ?_
            refine v_sipush (v := 256) hC dL_boats_86 (by decide) ?_
            refine v_iload hC dL_boats_89 3 rfl ?_
            refine v_imul (x := 256) (y := nI q) hC dL_boats_91 ?_
            refine v_topi (y := nI (256 * q)) (pk_mul 256 q) ?_
            refine v_callVr (v := .int (rankC X m (nI s) (nI (256 * q)))) (C2 := CC Λ X Y) (As := [.int (nI s), .int (nI (256 * q))]) (rest := [.int (nI (cnt (fbit (fw f)) 0 (256 * q + 256)))]) hC 2 197 (c_X4_rank Λ X Y (s := nI s) (n := nI (256 * q)) hm0 hm) (nR_of (by decide)) (cc_197 Λ X Y) rfl gL_boats_X4_rank rfl rfl rfl hd_X4_rank ⟨by decide, by decide⟩ rfl rfl (Nat.le_of_ble_eq_true rfl) dL_boats_92 ?_
            refine v_topi (y := nI (cnt (fbit (fw f)) 0 (256 * q))) (rT _ (by omega)) ?_
            refine v_isub (x := nI (cnt (fbit (fw f)) 0 (256 * q + 256))) (y := nI (cnt (fbit (fw f)) 0 (256 * q))) hC dL_boats_95 ?_
            refine v_topi (y := nI (cm (fw f) q)) (in_bay (fw f) q) ?_
            refine v_istore (lv' := [(11, .int (nI (cm (fw f) q))), (10, .int (-5)), (9, .int (-5)), (8, .int (-5)), (7, .int (nI q)), (6, .int (sumI (fr f) q)), (5, .int (sumI (fun b => unitsC f b (bestC f b)) q)), (4, .int (sumI (fun b => unitsC f b (fk f b)) q)), (3, .int (bk3 f q)), (2, .int (sumI (fs f) q)), (0, rf Λ 197), (1, .int (nI s))]) hC dL_boats_96 (by decide) rfl ?_
            refine v_iload hC dL_boats_98 3 rfl ?_
            refine v_bipush (v := (-5)) hC dL_boats_100 (by decide) ?_
            refine v_icmp_ne (tgt := 132) hC dL_boats_102 (by decide) (fun h => absurd rfl h) (fun _ => ?_)
            refine v_iload hC dL_boats_105 2 rfl ?_
            refine v_bipush (v := (-5)) hC dL_boats_107 (by decide) ?_
            refine v_icmp_ne (tgt := 130) hC dL_boats_109 (by decide) (fun h => absurd rfl h) (fun _ => ?_)
            refine v_iload hC dL_boats_112 0 rfl ?_
            refine v_if_ne (tgt := 130) hC dL_boats_114 (by decide) (fun h => absurd (show nI (cm (fw f) q) = 0 by rw [hc]; rfl) h) (fun _ => ?_)
            refine v_aload_n hC dL_boats_117 10 rfl ?_
            refine v_iload_n hC dL_boats_118 11 rfl ?_
            refine v_iload hC dL_boats_119 4 rfl ?_
            refine v_iconst (v := 5) hC dL_boats_121 (by decide) ?_
            refine v_callVr (v := .int (boatC X m (nI s) (nI q) 5)) (C2 := CC Λ X Y) (As := [.int (nI s), .int (nI q), .int 5]) (rest := []) hC 3 197 (c_X4_boat Λ X Y (s := nI s) (b := nI q) (v := 5) hm0 hm) (nR_of (by decide)) (cc_197 Λ X Y) rfl gL_boats_X4_boat rfl rfl rfl hd_X4_boat ⟨by decide, by decide⟩ rfl rfl (Nat.le_of_ble_eq_true rfl) dL_boats_122 ?_
            refine v_topi (y := (-5)) (bz _ (by decide) (by decide)) ?_
            refine v_bipush (v := (-5)) hC dL_boats_125 (by decide) ?_
            refine v_icmp_eq (tgt := 312) hC dL_boats_127 (by decide) (fun _ => ?_) (fun h => absurd rfl h)
            refine v_iinc (j := 4) (v := nI (q + 1)) (lv' := [(7, .int (nI (q + 1))), (11, .int (nI (cm (fw f) q))), (10, .int (-5)), (9, .int (-5)), (8, .int (-5)), (6, .int (sumI (fr f) q)), (5, .int (sumI (fun b => unitsC f b (bestC f b)) q)), (4, .int (sumI (fun b => unitsC f b (fk f b)) q)), (3, .int (bk3 f q)), (2, .int (sumI (fs f) q)), (0, rf Λ 197), (1, .int (nI s))]) hC dL_boats_312 rfl (nI_add q 1) (by decide) rfl ?_
            refine v_goto (tgt := 16) hC dL_boats_315 (by decide) ?_
            refine v_sub (lv' := [(7, .int (nI (q + 1))), (6, .int (sumI (fr f) q)), (5, .int (sumI (fun b => unitsC f b (bestC f b)) q)), (4, .int (sumI (fun b => unitsC f b (fk f b)) q)), (3, .int (bk3 f q)), (2, .int (sumI (fs f) q)), (0, rf Λ 197), (1, .int (nI s))]) [0, 5, 6, 7, 8, 9, 10, 11] rfl ?_
            refine v_args (lv' := [(7, .int (nI (q + 1))), (6, .int (sumI (fr f) (q + 1))), (5, .int (sumI (fun b => unitsC f b (bestC f b)) (q + 1))), (4, .int (sumI (fun b => unitsC f b (fk f b)) (q + 1))), (3, .int (bk3 f (q + 1))), (2, .int (sumI (fs f) (q + 1))), (0, rf Λ 197), (1, .int (nI s))]) (by rw [e2, e3, e4, e5, e6]) ?_
            exact ih16 (q + 1) (by omega) (by omega)
          refine v_iload hC dL_boats_53 3 rfl ?_
          refine v_bipush (v := 7) hC dL_boats_55 (by decide) ?_
          refine v_icmp_ge (tgt := 78) hC dL_boats_57 (by decide) (fun c57 => ?_) (fun c57 => ?_)
          · have g57 : 7 ≤ q := (nI_leI (a := 7) (by decide) (by omega)).mp c57
            refine v_aload_n hC dL_boats_78 9 rfl ?_
            refine v_iload_n hC dL_boats_79 10 rfl ?_
            refine v_iconst (v := 0) hC dL_boats_80 (by decide) ?_
            refine v_callVr (v := .int (setC X m (nI s) 0)) (C2 := CC Λ X Y) (As := [.int (nI s), .int 0]) (rest := []) hC 2 197 (c_X4_set Λ X Y (s := nI s) (v := 0) hm0 hm) (nR_of (by decide)) (cc_197 Λ X Y) rfl gL_boats_X4_set rfl rfl rfl hd_X4_set ⟨by decide, by decide⟩ rfl rfl (Nat.le_of_ble_eq_true rfl) dL_boats_81 ?_
            refine v_topi (y := nI (cnt (fbit (fw f)) 0 (256 * q + 256))) (by rw [sT, se_0, show 256 * q + 256 = 2048 by omega]; exact sz_T hg) ?_
            exact J84
          · have g57 : q < 7 := Nat.lt_of_not_le (fun z => c57 ((nI_leI (a := 7) (by decide) (by omega)).mpr z))
            refine v_aload_n hC dL_boats_60 9 rfl ?_
            refine v_iload_n hC dL_boats_61 10 rfl ?_
            refine v_sipush (v := 256) hC dL_boats_62 (by decide) ?_
            refine v_iload hC dL_boats_65 3 rfl ?_
            refine v_imul (x := 256) (y := nI q) hC dL_boats_67 ?_
            refine v_topi (y := nI (256 * q)) (pk_mul 256 q) ?_
            refine v_sipush (v := 256) hC dL_boats_68 (by decide) ?_
            refine v_iadd (x := nI (256 * q)) (y := 256) hC dL_boats_71 ?_
            refine v_topi (y := nI (256 * q + 256)) (nI_add (256 * q) 256) ?_
            refine v_callVr (v := .int (rankC X m (nI s) (nI (256 * q + 256)))) (C2 := CC Λ X Y) (As := [.int (nI s), .int (nI (256 * q + 256))]) (rest := []) hC 2 197 (c_X4_rank Λ X Y (s := nI s) (n := nI (256 * q + 256)) hm0 hm) (nR_of (by decide)) (cc_197 Λ X Y) rfl gL_boats_X4_rank rfl rfl rfl hd_X4_rank ⟨by decide, by decide⟩ rfl rfl (Nat.le_of_ble_eq_true rfl) dL_boats_72 ?_
            refine v_topi (y := nI (cnt (fbit (fw f)) 0 (256 * q + 256))) (rT _ (by omega)) ?_
            refine v_goto (tgt := 84) hC dL_boats_75 (by decide) ?_
            exact J84
        · have bn : ∀ v : Int32, ¬ v < 0 → ¬ 5 < v → boatC X m (nI s) (nI q) v = boatF f q v := fun v a c => (boat_E hs hm g20 a c).trans (by rw [hf]; exact if_neg (fun z => hc ((fs_0 hg.1 g20).mp z)))
          have e3 : bk3 f (q + 1) = bk3 f q + 1 := by rw [bk3_s hg g20, if_neg hc]
          have hq := hg.2.1 q g20
          obtain ⟨w1, w2⟩ := hg.1 q g20
          have hcm := cm_le (fw f) q
          have hcr := cr_le (fw f) q
          have hcc := cr_cm (fw f) q
          have hr1 := cm_cr hc
          obtain ⟨bn1, bn2⟩ := boat_n hg g20
          have uK : unL (fk f q) (nI (cm (fw f) q)) (nI (cr (fw f) q)) = unitsC f q (fk f q) := by rw [← w1, ← w2]; exact unL_C hq
          have uB : unL (bestC f q) (nI (cm (fw f) q)) (nI (cr (fw f) q)) = unitsC f q (bestC f q) := by rw [← w1, ← w2]; exact unL_C (be_q hg.1 g20)
          refine v_aload_n hC dL_boats_23 6 rfl ?_
          refine v_iload_n hC dL_boats_24 7 rfl ?_
          refine v_iload hC dL_boats_25 0 rfl ?_
          refine v_iconst (v := 0) hC dL_boats_27 (by decide) ?_
          refine v_callVr (v := .int (boatC X m (nI s) (nI q) 0)) (C2 := CC Λ X Y) (As := [.int (nI s), .int (nI q), .int 0]) (rest := []) hC 3 197 (c_X4_boat Λ X Y (s := nI s) (b := nI q) (v := 0) hm0 hm) (nR_of (by decide)) (cc_197 Λ X Y) rfl gL_boats_X4_boat rfl rfl rfl hd_X4_boat ⟨by decide, by decide⟩ rfl rfl (Nat.le_of_ble_eq_true rfl) dL_boats_28 ?_
          refine v_topi (y := fk f q) (by rw [bn 0 (by decide) (by decide), bo_0]) ?_
          refine v_istore (lv' := [(8, .int (fk f q)), (7, .int (nI q)), (6, .int (sumI (fr f) q)), (5, .int (sumI (fun b => unitsC f b (bestC f b)) q)), (4, .int (sumI (fun b => unitsC f b (fk f b)) q)), (3, .int (bk3 f q)), (2, .int (sumI (fs f) q)), (0, rf Λ 197), (1, .int (nI s))]) hC dL_boats_31 (by decide) rfl ?_
          refine v_aload_n hC dL_boats_33 7 rfl ?_
          refine v_iload_n hC dL_boats_34 8 rfl ?_
          refine v_iload hC dL_boats_35 1 rfl ?_
          refine v_iconst (v := 1) hC dL_boats_37 (by decide) ?_
          refine v_callVr (v := .int (boatC X m (nI s) (nI q) 1)) (C2 := CC Λ X Y) (As := [.int (nI s), .int (nI q), .int 1]) (rest := []) hC 3 197 (c_X4_boat Λ X Y (s := nI s) (b := nI q) (v := 1) hm0 hm) (nR_of (by decide)) (cc_197 Λ X Y) rfl gL_boats_X4_boat rfl rfl rfl hd_X4_boat ⟨by decide, by decide⟩ rfl rfl (Nat.le_of_ble_eq_true rfl) dL_boats_38 ?_
          refine v_topi (y := nI (cm (fw f) q)) (by rw [bn 1 (by decide) (by decide), bo_1]; exact w1) ?_
          refine v_istore (lv' := [(9, .int (nI (cm (fw f) q))), (8, .int (fk f q)), (7, .int (nI q)), (6, .int (sumI (fr f) q)), (5, .int (sumI (fun b => unitsC f b (bestC f b)) q)), (4, .int (sumI (fun b => unitsC f b (fk f b)) q)), (3, .int (bk3 f q)), (2, .int (sumI (fs f) q)), (0, rf Λ 197), (1, .int (nI s))]) hC dL_boats_41 (by decide) rfl ?_
          refine v_aload_n hC dL_boats_43 8 rfl ?_
          refine v_iload_n hC dL_boats_44 9 rfl ?_
          refine v_iload hC dL_boats_45 2 rfl ?_
          refine v_iconst (v := 2) hC dL_boats_47 (by decide) ?_
          refine v_callVr (v := .int (boatC X m (nI s) (nI q) 2)) (C2 := CC Λ X Y) (As := [.int (nI s), .int (nI q), .int 2]) (rest := []) hC 3 197 (c_X4_boat Λ X Y (s := nI s) (b := nI q) (v := 2) hm0 hm) (nR_of (by decide)) (cc_197 Λ X Y) rfl gL_boats_X4_boat rfl rfl rfl hd_X4_boat ⟨by decide, by decide⟩ rfl rfl (Nat.le_of_ble_eq_true rfl) dL_boats_48 ?_
          refine v_topi (y := nI (cr (fw f) q)) (by rw [bn 2 (by decide) (by decide), bo_2]; exact w2) ?_
          refine v_istore (lv' := [(10, .int (nI (cr (fw f) q))), (9, .int (nI (cm (fw f) q))), (8, .int (fk f q)), (7, .int (nI q)), (6, .int (sumI (fr f) q)), (5, .int (sumI (fun b => unitsC f b (bestC f b)) q)), (4, .int (sumI (fun b => unitsC f b (fk f b)) q)), (3, .int (bk3 f q)), (2, .int (sumI (fs f) q)), (0, rf Λ 197), (1, .int (nI s))]) hC dL_boats_51 (by decide) rfl ?_
          have J84 : V Λ κ (CC Λ X Y) 84 [(10, .int (nI (cr (fw f) q))), (9, .int (nI (cm (fw f) q))), (8, .int (fk f q)), (7, .int (nI q)), (6, .int (sumI (fr f) q)), (5, .int (sumI (fun b => unitsC f b (bestC f b)) q)), (4, .int (sumI (fun b => unitsC f b (fk f b)) q)), (3, .int (bk3 f q)), (2, .int (sumI (fs f) q)), (0, rf Λ 197), (1, .int (nI s))] [.int (nI (cnt (fbit (fw f)) 0 (256 * q + 256)))] := by
            refine v_aload_n hC dL_boats_84 9 rfl ?_
            refine v_iload_n hC dL_boats_85 10 rfl ?_
            refine v_sipush (v := 256) hC dL_boats_86 (by decide) ?_
            refine v_iload hC dL_boats_89 3 rfl ?_
            refine v_imul (x := 256) (y := nI q) hC dL_boats_91 ?_
            refine v_topi (y := nI (256 * q)) (pk_mul 256 q) ?_
            refine v_callVr (v := .int (rankC X m (nI s) (nI (256 * q)))) (C2 := CC Λ X Y) (As := [.int (nI s), .int (nI (256 * q))]) (rest := [.int (nI (cnt (fbit (fw f)) 0 (256 * q + 256)))]) hC 2 197 (c_X4_rank Λ X Y (s := nI s) (n := nI (256 * q)) hm0 hm) (nR_of (by decide)) (cc_197 Λ X Y) rfl gL_boats_X4_rank rfl rfl rfl hd_X4_rank ⟨by decide, by decide⟩ rfl rfl (Nat.le_of_ble_eq_true rfl) dL_boats_92 ?_
            refine v_topi (y := nI (cnt (fbit (fw f)) 0 (256 * q))) (rT _ (by omega)) ?_
            refine v_isub (x := nI (cnt (fbit (fw f)) 0 (256 * q + 256))) (y := nI (cnt (fbit (fw f)) 0 (256 * q))) hC dL_boats_95 ?_
            refine v_topi (y := nI (cm (fw f) q)) (in_bay (fw f) q) ?_
            refine v_istore (lv' := [(11, .int (nI (cm (fw f) q))), (10, .int (nI (cr (fw f) q))), (9, .int (nI (cm (fw f) q))), (8, .int (fk f q)), (7, .int (nI q)), (6, .int (sumI (fr f) q)), (5, .int (sumI (fun b => unitsC f b (bestC f b)) q)), (4, .int (sumI (fun b => unitsC f b (fk f b)) q)), (3, .int (bk3 f q)), (2, .int (sumI (fs f) q)), (0, rf Λ 197), (1, .int (nI s))]) hC dL_boats_96 (by decide) rfl ?_
            refine v_iload hC dL_boats_98 3 rfl ?_
            refine v_bipush (v := (-5)) hC dL_boats_100 (by decide) ?_
            refine v_icmp_ne (tgt := 132) hC dL_boats_102 (by decide) (fun _ => ?_) (fun h => absurd h (show ¬ fk f q = -5 from fun z => q_pos hq (by rw [z]; decide)))
            refine v_iload hC dL_boats_132 2 rfl ?_
            refine v_iload hC dL_boats_134 1 rfl ?_
            refine v_callSr (v := .int (bsT (cm (fw f) q) (cr (fw f) q))) (C2 := CC Λ X Y) (As := [.int (nI (cm (fw f) q)), .int (nI (cr (fw f) q))]) (rest := []) hC 2 (c_L_best Λ X Y (m := cm (fw f) q) (r := cr (fw f) q) (cm_le _ _) (cr_le _ _)) gL_boats_L_best rfl rfl rfl hd_L_best ⟨by decide, by decide⟩ rfl rfl (Nat.le_of_ble_eq_true rfl) dL_boats_136 ?_
            refine v_topi (y := bestC f q) ((bq_best hg.1 g20).symm) ?_
            refine v_istore (lv' := [(12, .int (bestC f q)), (11, .int (nI (cm (fw f) q))), (10, .int (nI (cr (fw f) q))), (9, .int (nI (cm (fw f) q))), (8, .int (fk f q)), (7, .int (nI q)), (6, .int (sumI (fr f) q)), (5, .int (sumI (fun b => unitsC f b (bestC f b)) q)), (4, .int (sumI (fun b => unitsC f b (fk f b)) q)), (3, .int (bk3 f q)), (2, .int (sumI (fs f) q)), (0, rf Λ 197), (1, .int (nI s))]) hC dL_boats_139 (by decide) rfl ?_
            refine v_iload hC dL_boats_141 3 rfl ?_
            refine v_iload hC dL_boats_143 1 rfl ?_
            refine v_icmp_ne (tgt := 267) hC dL_boats_145 (by decide) (fun h => absurd rfl h) (fun _ => ?_)
            refine v_iload hC dL_boats_148 3 rfl ?_
            refine v_iconst (v := 1) hC dL_boats_150 (by decide) ?_
            refine v_icmp_lt (tgt := 267) hC dL_boats_151 (by decide) (fun h => absurd h (show ¬ nI (cm (fw f) q) < 1 from fun z => by have := (nI_ltI (b := 1) (by omega) (by decide)).mp z; omega)) (fun _ => ?_)
            refine v_iload hC dL_boats_154 2 rfl ?_
            refine v_iconst (v := 1) hC dL_boats_156 (by decide) ?_
            refine v_icmp_lt (tgt := 267) hC dL_boats_157 (by decide) (fun h => absurd h (show ¬ nI (cr (fw f) q) < 1 from fun z => by have := (nI_ltI (b := 1) (by omega) (by decide)).mp z; omega)) (fun _ => ?_)
            refine v_iload hC dL_boats_160 2 rfl ?_
            refine v_iload hC dL_boats_162 3 rfl ?_
            refine v_icmp_gt (tgt := 267) hC dL_boats_164 (by decide) (fun h => absurd h (show ¬ nI (cm (fw f) q) < nI (cr (fw f) q) from fun z => by have := (nI_ltI (by omega) (by omega)).mp z; omega)) (fun _ => ?_)
            refine v_iload hC dL_boats_167 4 rfl ?_
            refine v_if_lt (tgt := 267) hC dL_boats_169 (by decide) (fun h => absurd h (q_pos hq)) (fun _ => ?_)
            refine v_iload hC dL_boats_172 4 rfl ?_
            refine v_iconst (v := 2) hC dL_boats_174 (by decide) ?_
            refine v_icmp_gt (tgt := 267) hC dL_boats_175 (by decide) (fun h => absurd h (show ¬ 2 < fk f q from by rcases hq with z | z | z <;> rw [z] <;> decide)) (fun _ => ?_)
            have J203 : V Λ κ (CC Λ X Y) 203 [(12, .int (bestC f q)), (11, .int (nI (cm (fw f) q))), (10, .int (nI (cr (fw f) q))), (9, .int (nI (cm (fw f) q))), (8, .int (fk f q)), (7, .int (nI q)), (6, .int (sumI (fr f) q)), (5, .int (sumI (fun b => unitsC f b (bestC f b)) q)), (4, .int (sumI (fun b => unitsC f b (fk f b)) q)), (3, .int (bk3 f q)), (2, .int (sumI (fs f) q)), (0, rf Λ 197), (1, .int (nI s))] [] := by
              have J269 : V Λ κ (CC Λ X Y) 269 [(12, .int (bestC f q)), (11, .int (nI (cm (fw f) q))), (10, .int (nI (cr (fw f) q))), (9, .int (nI (cm (fw f) q))), (8, .int (fk f q)), (7, .int (nI q)), (6, .int (sumI (fr f) q)), (5, .int (sumI (fun b => unitsC f b (bestC f b)) q)), (4, .int (sumI (fun b => unitsC f b (fk f b)) q)), (3, .int (bk3 f q)), (2, .int (sumI (fs f) q)), (0, rf Λ 197), (1, .int (nI s))] [] := by
                refine v_iload_n hC dL_boats_269 10 rfl ?_
                refine v_iload hC dL_boats_270 3 rfl ?_
                refine v_iadd (x := sumI (fs f) q) (y := nI (cm (fw f) q)) hC dL_boats_272 ?_
                refine v_topi (y := sumI (fs f) (q + 1)) (by rw [sumI_s, w1]) ?_
                refine v_istore_n (lv' := [(2, .int (sumI (fs f) (q + 1))), (12, .int (bestC f q)), (11, .int (nI (cm (fw f) q))), (10, .int (nI (cr (fw f) q))), (9, .int (nI (cm (fw f) q))), (8, .int (fk f q)), (7, .int (nI q)), (6, .int (sumI (fr f) q)), (5, .int (sumI (fun b => unitsC f b (bestC f b)) q)), (4, .int (sumI (fun b => unitsC f b (fk f b)) q)), (3, .int (bk3 f q)), (0, rf Λ 197), (1, .int (nI s))]) hC dL_boats_273 (by decide) rfl ?_
                refine v_iinc (j := 10) (v := (bk3 f q) + 1) (lv' := [(3, .int ((bk3 f q) + 1)), (2, .int (sumI (fs f) (q + 1))), (12, .int (bestC f q)), (11, .int (nI (cm (fw f) q))), (10, .int (nI (cr (fw f) q))), (9, .int (nI (cm (fw f) q))), (8, .int (fk f q)), (7, .int (nI q)), (6, .int (sumI (fr f) q)), (5, .int (sumI (fun b => unitsC f b (bestC f b)) q)), (4, .int (sumI (fun b => unitsC f b (fk f b)) q)), (0, rf Λ 197), (1, .int (nI s))]) hC dL_boats_274 rfl rfl (by decide) rfl ?_
                refine v_iload hC dL_boats_277 10 rfl ?_
                refine v_iload hC dL_boats_279 6 rfl ?_
                refine v_iload hC dL_boats_281 5 rfl ?_
                refine v_iload hC dL_boats_283 4 rfl ?_
                refine v_callSr (v := .int (unL (fk f q) (nI (cm (fw f) q)) (nI (cr (fw f) q)))) (C2 := CC Λ X Y) (As := [.int (fk f q), .int (nI (cm (fw f) q)), .int (nI (cr (fw f) q))]) (rest := [.int (sumI (fun b => unitsC f b (fk f b)) q)]) hC 3 (c_L_units Λ X Y (k := fk f q) (x := nI (cm (fw f) q)) (y := nI (cr (fw f) q))) gL_boats_L_units rfl rfl rfl hd_L_units ⟨by decide, by decide⟩ rfl rfl (Nat.le_of_ble_eq_true rfl) dL_boats_285 ?_
                refine v_topi (y := unitsC f q (fk f q)) uK ?_
                refine v_iadd (x := sumI (fun b => unitsC f b (fk f b)) q) (y := unitsC f q (fk f q)) hC dL_boats_288 ?_
                refine v_topi (y := sumI (fun b => unitsC f b (fk f b)) (q + 1)) rfl ?_
                refine v_istore (lv' := [(4, .int (sumI (fun b => unitsC f b (fk f b)) (q + 1))), (3, .int ((bk3 f q) + 1)), (2, .int (sumI (fs f) (q + 1))), (12, .int (bestC f q)), (11, .int (nI (cm (fw f) q))), (10, .int (nI (cr (fw f) q))), (9, .int (nI (cm (fw f) q))), (8, .int (fk f q)), (7, .int (nI q)), (6, .int (sumI (fr f) q)), (5, .int (sumI (fun b => unitsC f b (bestC f b)) q)), (0, rf Λ 197), (1, .int (nI s))]) hC dL_boats_289 (by decide) rfl ?_
                refine v_iload hC dL_boats_291 10 rfl ?_
                refine v_iload hC dL_boats_293 3 rfl ?_
                refine v_iload hC dL_boats_295 6 rfl ?_
                refine v_iload hC dL_boats_297 5 rfl ?_
                refine v_callSr (v := .int (unL (bestC f q) (nI (cm (fw f) q)) (nI (cr (fw f) q)))) (C2 := CC Λ X Y) (As := [.int (bestC f q), .int (nI (cm (fw f) q)), .int (nI (cr (fw f) q))]) (rest := [.int (sumI (fun b => unitsC f b (bestC f b)) q)]) hC 3 (c_L_units Λ X Y (k := bestC f q) (x := nI (cm (fw f) q)) (y := nI (cr (fw f) q))) gL_boats_L_units rfl rfl rfl hd_L_units ⟨by decide, by decide⟩ rfl rfl (Nat.le_of_ble_eq_true rfl) dL_boats_299 ?_
                refine v_topi (y := unitsC f q (bestC f q)) uB ?_
                refine v_iadd (x := sumI (fun b => unitsC f b (bestC f b)) q) (y := unitsC f q (bestC f q)) hC dL_boats_302 ?_
                refine v_topi (y := sumI (fun b => unitsC f b (bestC f b)) (q + 1)) rfl ?_
                refine v_istore (lv' := [(5, .int (sumI (fun b => unitsC f b (bestC f b)) (q + 1))), (4, .int (sumI (fun b => unitsC f b (fk f b)) (q + 1))), (3, .int ((bk3 f q) + 1)), (2, .int (sumI (fs f) (q + 1))), (12, .int (bestC f q)), (11, .int (nI (cm (fw f) q))), (10, .int (nI (cr (fw f) q))), (9, .int (nI (cm (fw f) q))), (8, .int (fk f q)), (7, .int (nI q)), (6, .int (sumI (fr f) q)), (0, rf Λ 197), (1, .int (nI s))]) hC dL_boats_303 (by decide) rfl ?_
                refine v_iload hC dL_boats_305 10 rfl ?_
                refine v_iload hC dL_boats_307 6 rfl ?_
                refine v_iadd (x := sumI (fr f) q) (y := nI (cr (fw f) q)) hC dL_boats_309 ?_
                refine v_topi (y := sumI (fr f) (q + 1)) (by rw [sumI_s, w2]) ?_
                refine v_istore (lv' := [(6, .int (sumI (fr f) (q + 1))), (5, .int (sumI (fun b => unitsC f b (bestC f b)) (q + 1))), (4, .int (sumI (fun b => unitsC f b (fk f b)) (q + 1))), (3, .int ((bk3 f q) + 1)), (2, .int (sumI (fs f) (q + 1))), (12, .int (bestC f q)), (11, .int (nI (cm (fw f) q))), (10, .int (nI (cr (fw f) q))), (9, .int (nI (cm (fw f) q))), (8, .int (fk f q)), (7, .int (nI q)), (0, rf Λ 197), (1, .int (nI s))]) hC dL_boats_310 (by decide) rfl ?_
                refine v_iinc (j := 10) (v := nI (q + 1)) (lv' := [(7, .int (nI (q + 1))), (6, .int (sumI (fr f) (q + 1))), (5, .int (sumI (fun b => unitsC f b (bestC f b)) (q + 1))), (4, .int (sumI (fun b => unitsC f b (fk f b)) (q + 1))), (3, .int ((bk3 f q) + 1)), (2, .int (sumI (fs f) (q + 1))), (12, .int (bestC f q)), (11, .int (nI (cm (fw f) q))), (10, .int (nI (cr (fw f) q))), (9, .int (nI (cm (fw f) q))), (8, .int (fk f q)), (0, rf Λ 197), (1, .int (nI s))]) hC dL_boats_312 rfl (nI_add q 1) (by decide) rfl ?_
                refine v_goto (tgt := 16) hC dL_boats_315 (by decide) ?_
                refine v_sub (lv' := [(7, .int (nI (q + 1))), (6, .int (sumI (fr f) (q + 1))), (5, .int (sumI (fun b => unitsC f b (bestC f b)) (q + 1))), (4, .int (sumI (fun b => unitsC f b (fk f b)) (q + 1))), (3, .int ((bk3 f q) + 1)), (2, .int (sumI (fs f) (q + 1))), (0, rf Λ 197), (1, .int (nI s))]) [0, 1, 2, 3, 4, 5, 11, 12] rfl ?_
                refine v_args (lv' := [(7, .int (nI (q + 1))), (6, .int (sumI (fr f) (q + 1))), (5, .int (sumI (fun b => unitsC f b (bestC f b)) (q + 1))), (4, .int (sumI (fun b => unitsC f b (fk f b)) (q + 1))), (3, .int (bk3 f (q + 1))), (2, .int (sumI (fs f) (q + 1))), (0, rf Λ 197), (1, .int (nI s))]) (by rw [e3]) ?_
                exact ih16 (q + 1) (by omega) (by omega)
              refine v_aload_n hC dL_boats_203 11 rfl ?_
              refine v_iload_n hC dL_boats_204 12 rfl ?_
              refine v_iload hC dL_boats_205 5 rfl ?_
              refine v_iconst (v := 3) hC dL_boats_207 (by decide) ?_
              refine v_callVr (v := .int (boatC X m (nI s) (nI q) 3)) (C2 := CC Λ X Y) (As := [.int (nI s), .int (nI q), .int 3]) (rest := []) hC 3 197 (c_X4_boat Λ X Y (s := nI s) (b := nI q) (v := 3) hm0 hm) (nR_of (by decide)) (cc_197 Λ X Y) rfl gL_boats_X4_boat rfl rfl rfl hd_X4_boat ⟨by decide, by decide⟩ rfl rfl (Nat.le_of_ble_eq_true rfl) dL_boats_208 ?_
              refine v_topi (y := unitsC f q (fk f q)) (by rw [bn 3 (by decide) (by decide), bo_3]) ?_
              refine v_iload hC dL_boats_211 4 rfl ?_
              refine v_iload hC dL_boats_213 3 rfl ?_
              refine v_iload hC dL_boats_215 2 rfl ?_
              refine v_callSr (v := .int (unL (fk f q) (nI (cm (fw f) q)) (nI (cr (fw f) q)))) (C2 := CC Λ X Y) (As := [.int (fk f q), .int (nI (cm (fw f) q)), .int (nI (cr (fw f) q))]) (rest := [.int (unitsC f q (fk f q))]) hC 3 (c_L_units Λ X Y (k := fk f q) (x := nI (cm (fw f) q)) (y := nI (cr (fw f) q))) gL_boats_L_units rfl rfl rfl hd_L_units ⟨by decide, by decide⟩ rfl rfl (Nat.le_of_ble_eq_true rfl) dL_boats_217 ?_
              refine v_topi (y := unitsC f q (fk f q)) uK ?_
              refine v_icmp_ne (tgt := 267) hC dL_boats_220 (by decide) (fun h => absurd rfl h) (fun _ => ?_)
              refine v_aload_n hC dL_boats_223 11 rfl ?_
              refine v_iload_n hC dL_boats_224 12 rfl ?_
              refine v_iload hC dL_boats_225 5 rfl ?_
              refine v_iconst (v := 4) hC dL_boats_227 (by decide) ?_
              refine v_callVr (v := .int (boatC X m (nI s) (nI q) 4)) (C2 := CC Λ X Y) (As := [.int (nI s), .int (nI q), .int 4]) (rest := []) hC 3 197 (c_X4_boat Λ X Y (s := nI s) (b := nI q) (v := 4) hm0 hm) (nR_of (by decide)) (cc_197 Λ X Y) rfl gL_boats_X4_boat rfl rfl rfl hd_X4_boat ⟨by decide, by decide⟩ rfl rfl (Nat.le_of_ble_eq_true rfl) dL_boats_228 ?_
              refine v_topi (y := bestC f q) (by rw [bn 4 (by decide) (by decide), bo_4]) ?_
              refine v_iload hC dL_boats_231 0 rfl ?_
              refine v_icmp_ne (tgt := 267) hC dL_boats_233 (by decide) (fun h => absurd rfl h) (fun _ => ?_)
              refine v_aload_n hC dL_boats_236 11 rfl ?_
              refine v_iload_n hC dL_boats_237 12 rfl ?_
              refine v_iload hC dL_boats_238 5 rfl ?_
              refine v_iconst (v := 5) hC dL_boats_240 (by decide) ?_
              refine v_callVr (v := .int (boatC X m (nI s) (nI q) 5)) (C2 := CC Λ X Y) (As := [.int (nI s), .int (nI q), .int 5]) (rest := []) hC 3 197 (c_X4_boat Λ X Y (s := nI s) (b := nI q) (v := 5) hm0 hm) (nR_of (by decide)) (cc_197 Λ X Y) rfl gL_boats_X4_boat rfl rfl rfl hd_X4_boat ⟨by decide, by decide⟩ rfl rfl (Nat.le_of_ble_eq_true rfl) dL_boats_241 ?_
              refine v_topi (y := tbC f q) (by rw [bn 5 (by decide) (by decide), bo_5]) ?_
              refine v_iload hC dL_boats_244 4 rfl ?_
              refine v_iload hC dL_boats_246 0 rfl ?_
              refine v_icmp_ne (tgt := 255) hC dL_boats_248 (by decide) (fun c248 => ?_) (fun c248 => ?_)
              · refine v_iload hC dL_boats_255 0 rfl ?_
                refine v_iload hC dL_boats_257 3 rfl ?_
                refine v_iload hC dL_boats_259 2 rfl ?_
                refine v_callSr (v := .int (unL (bestC f q) (nI (cm (fw f) q)) (nI (cr (fw f) q)))) (C2 := CC Λ X Y) (As := [.int (bestC f q), .int (nI (cm (fw f) q)), .int (nI (cr (fw f) q))]) (rest := [.int (tbC f q)]) hC 3 (c_L_units Λ X Y (k := bestC f q) (x := nI (cm (fw f) q)) (y := nI (cr (fw f) q))) gL_boats_L_units rfl rfl rfl hd_L_units ⟨by decide, by decide⟩ rfl rfl (Nat.le_of_ble_eq_true rfl) dL_boats_261 ?_
                refine v_topi (y := unitsC f q (bestC f q)) uB ?_
                refine v_icmp_eq (tgt := 269) hC dL_boats_264 (by decide) (fun _ => ?_) (fun h => absurd (if_neg (fun z => c248 z.symm) : tbC f q = unitsC f q (bestC f q)) h)
                exact J269
              · refine v_iconst (v := 0) hC dL_boats_251 (by decide) ?_
                refine v_goto (tgt := 264) hC dL_boats_252 (by decide) ?_
                refine v_icmp_eq (tgt := 269) hC dL_boats_264 (by decide) (fun _ => ?_) (fun h => absurd (if_pos c248.symm : tbC f q = 0) h)
                exact J269
            have J190 : V Λ κ (CC Λ X Y) 190 [(12, .int (bestC f q)), (11, .int (nI (cm (fw f) q))), (10, .int (nI (cr (fw f) q))), (9, .int (nI (cm (fw f) q))), (8, .int (fk f q)), (7, .int (nI q)), (6, .int (sumI (fr f) q)), (5, .int (sumI (fun b => unitsC f b (bestC f b)) q)), (4, .int (sumI (fun b => unitsC f b (fk f b)) q)), (3, .int (bk3 f q)), (2, .int (sumI (fs f) q)), (0, rf Λ 197), (1, .int (nI s))] [] := by
              refine v_iload hC dL_boats_190 4 rfl ?_
              refine v_iconst (v := 2) hC dL_boats_192 (by decide) ?_
              refine v_icmp_ne (tgt := 203) hC dL_boats_193 (by decide) (fun c193 => ?_) (fun c193 => ?_)
              · exact J203
              · refine v_iload hC dL_boats_196 2 rfl ?_
                refine v_bipush (v := 8) hC dL_boats_198 (by decide) ?_
                refine v_icmp_gt (tgt := 267) hC dL_boats_200 (by decide) (fun h => absurd h (show ¬ 8 < nI (cr (fw f) q) from fun z => by have := (nI_ltI (a := 8) (by decide) (by omega)).mp z; have := bn2 c193; omega)) (fun _ => ?_)
                exact J203
            refine v_iload hC dL_boats_178 4 rfl ?_
            refine v_if_ne (tgt := 190) hC dL_boats_180 (by decide) (fun c180 => ?_) (fun c180 => ?_)
            · exact J190
            · refine v_iload hC dL_boats_183 3 rfl ?_
              refine v_bipush (v := 24) hC dL_boats_185 (by decide) ?_
              refine v_icmp_gt (tgt := 267) hC dL_boats_187 (by decide) (fun h => absurd h (show ¬ 24 < nI (cm (fw f) q) from fun z => by have := (nI_ltI (a := 24) (by decide) (by omega)).mp z; have := bn1 c180; omega)) (fun _ => ?_)
              exact J190
          refine v_iload hC dL_boats_53 3 rfl ?_
          refine v_bipush (v := 7) hC dL_boats_55 (by decide) ?_
          refine v_icmp_ge (tgt := 78) hC dL_boats_57 (by decide) (fun c57 => ?_) (fun c57 => ?_)
          · have g57 : 7 ≤ q := (nI_leI (a := 7) (by decide) (by omega)).mp c57
            refine v_aload_n hC dL_boats_78 9 rfl ?_
            refine v_iload_n hC dL_boats_79 10 rfl ?_
            refine v_iconst (v := 0) hC dL_boats_80 (by decide) ?_
            refine v_callVr (v := .int (setC X m (nI s) 0)) (C2 := CC Λ X Y) (As := [.int (nI s), .int 0]) (rest := []) hC 2 197 (c_X4_set Λ X Y (s := nI s) (v := 0) hm0 hm) (nR_of (by decide)) (cc_197 Λ X Y) rfl gL_boats_X4_set rfl rfl rfl hd_X4_set ⟨by decide, by decide⟩ rfl rfl (Nat.le_of_ble_eq_true rfl) dL_boats_81 ?_
            refine v_topi (y := nI (cnt (fbit (fw f)) 0 (256 * q + 256))) (by rw [sT, se_0, show 256 * q + 256 = 2048 by omega]; exact sz_T hg) ?_
            exact J84
          · have g57 : q < 7 := Nat.lt_of_not_le (fun z => c57 ((nI_leI (a := 7) (by decide) (by omega)).mpr z))
            refine v_aload_n hC dL_boats_60 9 rfl ?_
            refine v_iload_n hC dL_boats_61 10 rfl ?_
            refine v_sipush (v := 256) hC dL_boats_62 (by decide) ?_
            refine v_iload hC dL_boats_65 3 rfl ?_
            refine v_imul (x := 256) (y := nI q) hC dL_boats_67 ?_
            refine v_topi (y := nI (256 * q)) (pk_mul 256 q) ?_
            refine v_sipush (v := 256) hC dL_boats_68 (by decide) ?_
            refine v_iadd (x := nI (256 * q)) (y := 256) hC dL_boats_71 ?_
            refine v_topi (y := nI (256 * q + 256)) (nI_add (256 * q) 256) ?_
            refine v_callVr (v := .int (rankC X m (nI s) (nI (256 * q + 256)))) (C2 := CC Λ X Y) (As := [.int (nI s), .int (nI (256 * q + 256))]) (rest := []) hC 2 197 (c_X4_rank Λ X Y (s := nI s) (n := nI (256 * q + 256)) hm0 hm) (nR_of (by decide)) (cc_197 Λ X Y) rfl gL_boats_X4_rank rfl rfl rfl hd_X4_rank ⟨by decide, by decide⟩ rfl rfl (Nat.le_of_ble_eq_true rfl) dL_boats_72 ?_
            refine v_topi (y := nI (cnt (fbit (fw f)) 0 (256 * q + 256))) (rT _ (by omega)) ?_
            refine v_goto (tgt := 84) hC dL_boats_75 (by decide) ?_
            exact J84
  refine v_sub (lv' := [(7, .int 0), (6, .int 0), (5, .int 0), (4, .int 0), (3, .int 0), (2, .int 0), (0, rf Λ 197), (1, .int (nI s))]) [0, 1, 2, 3, 4, 5, 6, 7] rfl ?_
  exact L16 _ 0 (Nat.zero_le _) (Nat.lt_succ_self _)
