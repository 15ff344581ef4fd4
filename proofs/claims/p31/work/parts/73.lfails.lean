/-! The law: calls that fail -/
theorem con_E {Λ : Lk} {y : MethodName} {ws : List Cond} {rm : Room} {av : List Value} {C : Mem} {E : Int32 × XS} {Y : YS} {v : Int32} {X' : XS} (h : Con Λ y ws rm av C (some (.int E.1)) (CC Λ E.2 Y)) (e : E = (v, X')) : Con Λ y ws rm av C (some (.int v)) (CC Λ X' Y) := by
  subst e
  exact h
theorem lgc_self (x : Int64) : lg_cmp x x = 0 := by
  unfold lg_cmp
  rw [if_neg (by simp), if_pos rfl]
section ERRS
variable {X : XS} {m t L : Nat} {s a b c : Int32} {cmg : Bool}
theorem er_new1 : nsX X t m (-1) = (-2, X) := if_pos (Or.inl (by decide))
theorem er_new2 : nsX X t m 10000 = (-2, X) := if_pos (Or.inr (by decide))
theorem er_pay (h : isC m s = false) : payX X t m s c = (-1, X) := if_pos h
theorem er_sail (h : isC m s = false) : sailX X t m s = (-1, X) := if_pos h
theorem er_dock (h : isC m s = false) : dockX X t m s = (-1, X) := if_pos h
theorem er_mr (h : isC m s = false) : mrX X t m s a b cmg = (-1, X) := if_pos h
theorem er_mr2 (h : isC m s = true) (h2 : ¬ (inB a 0 2047 = true ∧ inB b 0 2047 = true ∧ a ≤ b)) : mrX X t m s a b cmg = (-2, X) := by
  unfold mrX
  rw [if_neg (ne_TF h), if_neg h2]
theorem er_add (h : isC m s = false) : addX X t m s a = (-1, X) := by
  unfold addX
  rw [er_mr h]
  exact if_pos (show (-1 : Int32) < 0 by decide)
theorem er_add2 (h : isC m s = true) (h2 : ¬ inB a 0 2047 = true) : addX X t m s a = (-2, X) := by
  unfold addX
  rw [er_mr2 h (fun z => h2 z.1)]
  exact if_pos (show (-2 : Int32) < 0 by decide)
theorem er_rem (h : isC m s = false) : remX X t m s a = (-1, X) := by
  unfold remX
  rw [er_mr h]
  exact if_pos (show (-1 : Int32) < 0 by decide)
theorem er_rem2 (h : isC m s = true) (h2 : ¬ inB a 0 2047 = true) : remX X t m s a = (-2, X) := by
  unfold remX
  rw [er_mr2 h (fun z => h2 z.1)]
  exact if_pos (show (-2 : Int32) < 0 by decide)
theorem er_comb (h : isC m s = false) : cbX X t m c s a b = (-1, X) := if_pos (Or.inl h)
theorem er_comb2 (h : isC m s = true) : cbX X t m 4 s s s = (-2, X) := by
  unfold cbX
  rw [if_neg (fun z => by rcases z with z | z | z <;> exact ne_TF h z), if_pos (show inB 4 0 3 = false by decide)]
theorem er_read (h : isC m s = false) : rrX X t m L s = (-1, X) := if_pos h
theorem er_has (h : isC m s = false) : hasC X m s a = -1 := if_pos h
theorem er_set (h : isC m s = false) : setC X m s a = -1 := if_pos h
theorem er_boat (h : isC m s = false) : boatC X m s a b = -1 := if_pos h
theorem er_rank (h : isC m s = false) : rankC X m s a = -1 := if_pos h
theorem er_at (h : isC m s = false) : placeC X m s a = -1 := if_pos h
theorem er_next (h : isC m s = false) : nextC X m s a = -1 := if_pos h
theorem er_near (h : isC m s = false) : nearC X m s a = -1 := if_pos h
theorem er_gap (h : isC m s = false) : gapC X m s a = -1 := if_pos h
theorem er_size (h : isC m s = false) : sizeC X m c s a = -1 := if_pos (Or.inl h)
theorem er_all : allC X m (-1) = -2 := if_pos (by decide)
theorem er_toll (h : isC m s = false) : tollX X m s = (-1, X) := if_pos h
theorem er_cnt11 : cntC X m t L 11 = -2 := by
  unfold cntC
  rw [if_neg (show ¬ (11 : Int32) = 0 by decide), if_neg (show ¬ (11 : Int32) = 1 by decide), if_neg (show ¬ (11 : Int32) = 2 by decide), if_neg (show ¬ (11 : Int32) = 3 by decide), if_neg (show ¬ (11 : Int32) = 4 by decide), if_neg (show ¬ (11 : Int32) = 5 by decide), if_neg (show ¬ (11 : Int32) = 6 by decide), if_neg (show ¬ (11 : Int32) = 7 by decide), if_neg (show ¬ (11 : Int32) = 8 by decide), if_neg (show ¬ (11 : Int32) = 9 by decide), if_neg (show ¬ (11 : Int32) = 10 by decide)]
theorem er_cntm : cntC X m t L (-1) = -2 := by
  unfold cntC
  rw [if_neg (show ¬ (-1 : Int32) = 0 by decide), if_neg (show ¬ (-1 : Int32) = 1 by decide), if_neg (show ¬ (-1 : Int32) = 2 by decide), if_neg (show ¬ (-1 : Int32) = 3 by decide), if_neg (show ¬ (-1 : Int32) = 4 by decide), if_neg (show ¬ (-1 : Int32) = 5 by decide), if_neg (show ¬ (-1 : Int32) = 6 by decide), if_neg (show ¬ (-1 : Int32) = 7 by decide), if_neg (show ¬ (-1 : Int32) = 8 by decide), if_neg (show ¬ (-1 : Int32) = 9 by decide), if_neg (show ¬ (-1 : Int32) = 10 by decide)]
theorem er_pay2 (h : isC m s = true) (h2 : c < 1 ∨ 9999 < c) : payX X t m s c = (-2, X) := by
  unfold payX
  rw [if_neg (ne_TF h), if_pos h2]
theorem er_has2 (h : isC m s = true) (h2 : inB a 0 2047 = false) : hasC X m s a = -2 := by
  unfold hasC
  rw [if_neg (ne_TF h), if_pos h2]
theorem er_set2 (h : isC m s = true) : setC X m s 10 = -2 := by
  unfold setC
  rw [if_neg (ne_TF h), if_neg (show ¬ (10 : Int32) = 0 by decide), if_neg (show ¬ (10 : Int32) = 1 by decide), if_neg (show ¬ (10 : Int32) = 2 by decide), if_neg (show ¬ (10 : Int32) = 3 by decide), if_neg (show ¬ (10 : Int32) = 4 by decide), if_neg (show ¬ (10 : Int32) = 5 by decide), if_neg (show ¬ (10 : Int32) = 6 by decide), if_neg (show ¬ (10 : Int32) = 7 by decide), if_neg (show ¬ (10 : Int32) = 8 by decide), if_neg (show ¬ (10 : Int32) = 9 by decide)]
theorem er_boat2 (h : isC m s = true) (h2 : a < 0 ∨ 8 ≤ a ∨ b < 0 ∨ 5 < b) : boatC X m s a b = -2 := by
  unfold boatC
  rw [if_neg (ne_TF h), if_pos h2]
theorem er_rank2 (h : isC m s = true) (h2 : inB a 0 2047 = false) : rankC X m s a = -2 := by
  unfold rankC
  rw [if_neg (ne_TF h), if_pos h2]
theorem er_at2 (h : isC m s = true) (h2 : a < 0) : placeC X m s a = -2 := by
  unfold placeC
  rw [if_neg (ne_TF h), if_pos h2]
theorem er_next2 (h : isC m s = true) (h2 : inB a 0 2047 = false) : nextC X m s a = -2 := by
  unfold nextC
  rw [if_neg (ne_TF h), if_pos h2]
theorem er_near2 (h : isC m s = true) (h2 : inB a 0 2047 = false) : nearC X m s a = -2 := by
  unfold nearC
  rw [if_neg (ne_TF h), if_pos h2]
theorem er_gap2 (h : isC m s = true) (h2 : a < 1 ∨ 2048 < a) : gapC X m s a = -2 := by
  unfold gapC
  rw [if_neg (ne_TF h), if_pos h2]
theorem er_size2 (h : isC m s = true) : sizeC X m (-1) s s = -2 := by
  unfold sizeC
  rw [if_neg (fun z => by rcases z with z | z <;> exact ne_TF h z), if_pos (show inB (-1) 0 3 = false by decide)]
end ERRS
theorem hd_L_fails : yL_fails.cls ≠ "java/lang/invoke/MethodHandle" ∧ yL_fails.cls ≠ "java/lang/invoke/VarHandle" ∧ (parseMethodDescriptor yL_fails.desc).map (fun d => d.parameters.length) = some 1 := by decide +kernel
set_option maxHeartbeats 1000000 in
set_option maxRecDepth 100000 in
theorem c_L_fails (Λ : Lk) (X : XS) (Y : YS) {m t : Nat} (hm0 : xh X 0 = nI m) (hm : m ≤ 6) (hp0 : xz X = nI t) (ht4 : t ≤ 4) (hq : ∀ j, xq X j < 4) (hl0 : xl X = 0) : Con Λ yL_fails wsL_fails { frames := 7, cells := 0, slots := 0, locals := 173 } [rf Λ 197] (CC Λ X Y) (some (.int 1)) (CC Λ X Y) := by
  refine con_start (cc := cL_fails) (maxL := 6) (ret := (some .boolean)) (by decide) rfl (Nat.le_of_ble_eq_true rfl) ?_
  intro κ hC hR
  have hC : Ok Λ { frames := 7, cells := 0, slots := 0, locals := 173 } cL_fails wsL_fails RL 6 κ := hC
  refine v_args (lv' := [(0, rf Λ 197)]) rfl ?_
  have h1 : isC m (nI m) = false := isC_m m
  have h2 : isC m (-1) = false := isC_F1 (by decide)
  refine v_aload_n hC dL_fails_0 0 rfl ?_
  refine v_callSr (v := .long (markX X m t 0)) (C2 := CC Λ X Y) (As := [rf Λ 197]) (rest := []) hC 1 (c_L_mark Λ X Y hm0 hm hp0 ht4 hl0) gL_fails_L_mark rfl rfl rfl hd_L_mark ⟨by decide, by decide⟩ rfl rfl (Nat.le_of_ble_eq_true rfl) dL_fails_1 ?_
  refine v_lstore_n (lv' := [(1, .long (markX X m t 0)), (0, rf Λ 197)]) hC dL_fails_4 (by decide) rfl ?_
  refine v_aload_n hC dL_fails_5 1 rfl ?_
  refine v_bipush (v := 9) hC dL_fails_6 (by decide) ?_
  refine v_callVr (v := .int (cntC X m t 0 9)) (C2 := CC Λ X Y) (As := [.int 9]) (rest := []) hC 1 197 (c_X4_count Λ X Y (v := 9) hm0 hm hp0 ht4 hl0 (Nat.zero_le _)) (nR_of (by decide)) (cc_197 Λ X Y) rfl gL_fails_X4_count rfl rfl rfl hd_X4_count ⟨by decide, by decide⟩ rfl rfl (Nat.le_of_ble_eq_true rfl) dL_fails_8 ?_
  refine v_istore_n (lv' := [(3, .int (cntC X m t 0 9)), (1, .long (markX X m t 0)), (0, rf Λ 197)]) hC dL_fails_11 (by decide) rfl ?_
  refine v_aload_n hC dL_fails_12 2 rfl ?_
  refine v_iconst (v := 0) hC dL_fails_13 (by decide) ?_
  refine v_callVr (v := .int (cntC X m t 0 0)) (C2 := CC Λ X Y) (As := [.int 0]) (rest := []) hC 1 197 (c_X4_count Λ X Y (v := 0) hm0 hm hp0 ht4 hl0 (Nat.zero_le _)) (nR_of (by decide)) (cc_197 Λ X Y) rfl gL_fails_X4_count rfl rfl rfl hd_X4_count ⟨by decide, by decide⟩ rfl rfl (Nat.le_of_ble_eq_true rfl) dL_fails_14 ?_
  refine v_topi (y := nI m) (ct_0 X m t 0) ?_
  refine v_istore (lv' := [(4, .int (nI m)), (3, .int (cntC X m t 0 9)), (1, .long (markX X m t 0)), (0, rf Λ 197)]) hC dL_fails_17 (by decide) rfl ?_
  refine v_aload_n hC dL_fails_19 3 rfl ?_
  refine v_iconst (v := (-1)) hC dL_fails_20 (by decide) ?_
  refine v_callVr (v := .int (-2)) (C2 := CC Λ X Y) (As := [.int (-1)]) (rest := []) hC 1 197 (con_E (c_X4_newSet Λ X Y (c := (-1)) hm0 hm hp0 ht4 hq) (er_new1)) (nR_of (by decide)) (cc_197 Λ X Y) rfl gL_fails_X4_newSet rfl rfl rfl hd_X4_newSet ⟨by decide, by decide⟩ rfl rfl (Nat.le_of_ble_eq_true rfl) dL_fails_21 ?_
  refine v_bipush (v := (-2)) hC dL_fails_24 (by decide) ?_
  refine v_icmp_ne (tgt := 284) hC dL_fails_26 (by decide) (fun h => absurd rfl h) (fun _ => ?_)
  refine v_aload_n hC dL_fails_29 3 rfl ?_
  refine v_sipush (v := 10000) hC dL_fails_30 (by decide) ?_
  refine v_callVr (v := .int (-2)) (C2 := CC Λ X Y) (As := [.int 10000]) (rest := []) hC 1 197 (con_E (c_X4_newSet Λ X Y (c := 10000) hm0 hm hp0 ht4 hq) (er_new2)) (nR_of (by decide)) (cc_197 Λ X Y) rfl gL_fails_X4_newSet rfl rfl rfl hd_X4_newSet ⟨by decide, by decide⟩ rfl rfl (Nat.le_of_ble_eq_true rfl) dL_fails_33 ?_
  refine v_bipush (v := (-2)) hC dL_fails_36 (by decide) ?_
  refine v_icmp_ne (tgt := 284) hC dL_fails_38 (by decide) (fun h => absurd rfl h) (fun _ => ?_)
  refine v_aload_n hC dL_fails_41 3 rfl ?_
  refine v_iload hC dL_fails_42 0 rfl ?_
  refine v_iconst (v := 1) hC dL_fails_44 (by decide) ?_
  refine v_callVr (v := .int (-1)) (C2 := CC Λ X Y) (As := [.int (nI m), .int 1]) (rest := []) hC 2 197 (con_E (c_X4_pay Λ X Y (s := nI m) (c := 1) hm0 hm hp0 ht4 hq) (er_pay h1)) (nR_of (by decide)) (cc_197 Λ X Y) rfl gL_fails_X4_pay rfl rfl rfl hd_X4_pay ⟨by decide, by decide⟩ rfl rfl (Nat.le_of_ble_eq_true rfl) dL_fails_45 ?_
  refine v_iconst (v := (-1)) hC dL_fails_48 (by decide) ?_
  refine v_icmp_ne (tgt := 284) hC dL_fails_49 (by decide) (fun h => absurd rfl h) (fun _ => ?_)
  refine v_aload_n hC dL_fails_52 3 rfl ?_
  refine v_iload hC dL_fails_53 0 rfl ?_
  refine v_callVr (v := .int (-1)) (C2 := CC Λ X Y) (As := [.int (nI m)]) (rest := []) hC 1 197 (con_E (c_X4_sail Λ X Y (s := nI m) hm0 hm hp0 ht4 hq) (er_sail h1)) (nR_of (by decide)) (cc_197 Λ X Y) rfl gL_fails_X4_sail rfl rfl rfl hd_X4_sail ⟨by decide, by decide⟩ rfl rfl (Nat.le_of_ble_eq_true rfl) dL_fails_55 ?_
  refine v_iconst (v := (-1)) hC dL_fails_58 (by decide) ?_
  refine v_icmp_ne (tgt := 284) hC dL_fails_59 (by decide) (fun h => absurd rfl h) (fun _ => ?_)
  refine v_aload_n hC dL_fails_62 3 rfl ?_
  refine v_iconst (v := (-1)) hC dL_fails_63 (by decide) ?_
  refine v_callVr (v := .int (-1)) (C2 := CC Λ X Y) (As := [.int (-1)]) (rest := []) hC 1 197 (con_E (c_X4_dock Λ X Y (s := (-1)) hm0 hm hp0 ht4 hq) (er_dock h2)) (nR_of (by decide)) (cc_197 Λ X Y) rfl gL_fails_X4_dock rfl rfl rfl hd_X4_dock ⟨by decide, by decide⟩ rfl rfl (Nat.le_of_ble_eq_true rfl) dL_fails_64 ?_
  refine v_iconst (v := (-1)) hC dL_fails_67 (by decide) ?_
  refine v_icmp_ne (tgt := 284) hC dL_fails_68 (by decide) (fun h => absurd rfl h) (fun _ => ?_)
  refine v_aload_n hC dL_fails_71 3 rfl ?_
  refine v_iload hC dL_fails_72 0 rfl ?_
  refine v_iconst (v := 0) hC dL_fails_74 (by decide) ?_
  refine v_callVr (v := .int (-1)) (C2 := CC Λ X Y) (As := [.int (nI m), .int 0]) (rest := []) hC 2 197 (con_E (c_X4_add Λ X Y (s := nI m) (n := 0) hm0 hm hp0 ht4 hq) (er_add h1)) (nR_of (by decide)) (cc_197 Λ X Y) rfl gL_fails_X4_add rfl rfl rfl hd_X4_add ⟨by decide, by decide⟩ rfl rfl (Nat.le_of_ble_eq_true rfl) dL_fails_75 ?_
  refine v_iconst (v := (-1)) hC dL_fails_78 (by decide) ?_
  refine v_icmp_ne (tgt := 284) hC dL_fails_79 (by decide) (fun h => absurd rfl h) (fun _ => ?_)
  refine v_aload_n hC dL_fails_82 3 rfl ?_
  refine v_iconst (v := (-1)) hC dL_fails_83 (by decide) ?_
  refine v_iconst (v := 0) hC dL_fails_84 (by decide) ?_
  refine v_callVr (v := .int (-1)) (C2 := CC Λ X Y) (As := [.int (-1), .int 0]) (rest := []) hC 2 197 (con_E (c_X4_remove Λ X Y (s := (-1)) (n := 0) hm0 hm hp0 ht4 hq) (er_rem h2)) (nR_of (by decide)) (cc_197 Λ X Y) rfl gL_fails_X4_remove rfl rfl rfl hd_X4_remove ⟨by decide, by decide⟩ rfl rfl (Nat.le_of_ble_eq_true rfl) dL_fails_85 ?_
  refine v_iconst (v := (-1)) hC dL_fails_88 (by decide) ?_
  refine v_icmp_ne (tgt := 284) hC dL_fails_89 (by decide) (fun h => absurd rfl h) (fun _ => ?_)
  refine v_aload_n hC dL_fails_92 3 rfl ?_
  refine v_iload hC dL_fails_93 0 rfl ?_
  refine v_iconst (v := 0) hC dL_fails_95 (by decide) ?_
  refine v_iconst (v := 0) hC dL_fails_96 (by decide) ?_
  refine v_callVr (v := .int (-1)) (C2 := CC Λ X Y) (As := [.int (nI m), .int 0, .int 0]) (rest := []) hC 3 197 (con_E (c_X4_addRange Λ X Y (s := nI m) (u := 0) (v := 0) hm0 hm hp0 ht4 hq) (er_mr h1)) (nR_of (by decide)) (cc_197 Λ X Y) rfl gL_fails_X4_addRange rfl rfl rfl hd_X4_addRange ⟨by decide, by decide⟩ rfl rfl (Nat.le_of_ble_eq_true rfl) dL_fails_97 ?_
  refine v_iconst (v := (-1)) hC dL_fails_100 (by decide) ?_
  refine v_icmp_ne (tgt := 284) hC dL_fails_101 (by decide) (fun h => absurd rfl h) (fun _ => ?_)
  refine v_aload_n hC dL_fails_104 3 rfl ?_
  refine v_iload hC dL_fails_105 0 rfl ?_
  refine v_iconst (v := 0) hC dL_fails_107 (by decide) ?_
  refine v_iconst (v := 0) hC dL_fails_108 (by decide) ?_
  refine v_callVr (v := .int (-1)) (C2 := CC Λ X Y) (As := [.int (nI m), .int 0, .int 0]) (rest := []) hC 3 197 (con_E (c_X4_removeRange Λ X Y (s := nI m) (u := 0) (v := 0) hm0 hm hp0 ht4 hq) (er_mr h1)) (nR_of (by decide)) (cc_197 Λ X Y) rfl gL_fails_X4_removeRange rfl rfl rfl hd_X4_removeRange ⟨by decide, by decide⟩ rfl rfl (Nat.le_of_ble_eq_true rfl) dL_fails_109 ?_
  refine v_iconst (v := (-1)) hC dL_fails_112 (by decide) ?_
  refine v_icmp_ne (tgt := 284) hC dL_fails_113 (by decide) (fun h => absurd rfl h) (fun _ => ?_)
  refine v_aload_n hC dL_fails_116 3 rfl ?_
  refine v_iconst (v := 0) hC dL_fails_117 (by decide) ?_
  refine v_iload hC dL_fails_118 0 rfl ?_
  refine v_iconst (v := 0) hC dL_fails_120 (by decide) ?_
  refine v_iconst (v := 0) hC dL_fails_121 (by decide) ?_
  refine v_callVr (v := .int (-1)) (C2 := CC Λ X Y) (As := [.int 0, .int (nI m), .int 0, .int 0]) (rest := []) hC 4 197 (con_E (c_X4_combine Λ X Y (how := 0) (s := nI m) (u := 0) (v := 0) hm0 hm hp0 ht4 hq) (er_comb h1)) (nR_of (by decide)) (cc_197 Λ X Y) rfl gL_fails_X4_combine rfl rfl rfl hd_X4_combine ⟨by decide, by decide⟩ rfl rfl (Nat.le_of_ble_eq_true rfl) dL_fails_122 ?_
  refine v_iconst (v := (-1)) hC dL_fails_125 (by decide) ?_
  refine v_icmp_ne (tgt := 284) hC dL_fails_126 (by decide) (fun h => absurd rfl h) (fun _ => ?_)
  refine v_aload_n hC dL_fails_129 3 rfl ?_
  refine v_iload hC dL_fails_130 0 rfl ?_
  refine v_callVr (v := .int (-1)) (C2 := CC Λ X Y) (As := [.int (nI m)]) (rest := []) hC 1 197 (con_E (c_X4_readRanges Λ X Y (s := nI m) (L := 0) hm0 hm hp0 ht4 hq hl0 (Nat.zero_le _)) (er_read h1)) (nR_of (by decide)) (cc_197 Λ X Y) rfl gL_fails_X4_readRanges rfl rfl rfl hd_X4_readRanges ⟨by decide, by decide⟩ rfl rfl (Nat.le_of_ble_eq_true rfl) dL_fails_132 ?_
  refine v_iconst (v := (-1)) hC dL_fails_135 (by decide) ?_
  refine v_icmp_ne (tgt := 284) hC dL_fails_136 (by decide) (fun h => absurd rfl h) (fun _ => ?_)
  refine v_aload_n hC dL_fails_139 3 rfl ?_
  refine v_iload hC dL_fails_140 0 rfl ?_
  refine v_iconst (v := 0) hC dL_fails_142 (by decide) ?_
  refine v_callVr (v := .int (hasC X m (nI m) 0)) (C2 := CC Λ X Y) (As := [.int (nI m), .int 0]) (rest := []) hC 2 197 (c_X4_has Λ X Y (s := nI m) (n := 0) hm0 hm) (nR_of (by decide)) (cc_197 Λ X Y) rfl gL_fails_X4_has rfl rfl rfl hd_X4_has ⟨by decide, by decide⟩ rfl rfl (Nat.le_of_ble_eq_true rfl) dL_fails_143 ?_
  refine v_topi (y := (-1)) (er_has h1) ?_
  refine v_iconst (v := (-1)) hC dL_fails_146 (by decide) ?_
  refine v_icmp_ne (tgt := 284) hC dL_fails_147 (by decide) (fun h => absurd rfl h) (fun _ => ?_)
  refine v_aload_n hC dL_fails_150 3 rfl ?_
  refine v_iload hC dL_fails_151 0 rfl ?_
  refine v_iconst (v := 0) hC dL_fails_153 (by decide) ?_
  refine v_callVr (v := .int (setC X m (nI m) 0)) (C2 := CC Λ X Y) (As := [.int (nI m), .int 0]) (rest := []) hC 2 197 (c_X4_set Λ X Y (s := nI m) (v := 0) hm0 hm) (nR_of (by decide)) (cc_197 Λ X Y) rfl gL_fails_X4_set rfl rfl rfl hd_X4_set ⟨by decide, by decide⟩ rfl rfl (Nat.le_of_ble_eq_true rfl) dL_fails_154 ?_
  refine v_topi (y := (-1)) (er_set h1) ?_
  refine v_iconst (v := (-1)) hC dL_fails_157 (by decide) ?_
  refine v_icmp_ne (tgt := 284) hC dL_fails_158 (by decide) (fun h => absurd rfl h) (fun _ => ?_)
  refine v_aload_n hC dL_fails_161 3 rfl ?_
  refine v_iconst (v := (-1)) hC dL_fails_162 (by decide) ?_
  refine v_iconst (v := 0) hC dL_fails_163 (by decide) ?_
  refine v_iconst (v := 0) hC dL_fails_164 (by decide) ?_
  refine v_callVr (v := .int (boatC X m (-1) 0 0)) (C2 := CC Λ X Y) (As := [.int (-1), .int 0, .int 0]) (rest := []) hC 3 197 (c_X4_boat Λ X Y (s := (-1)) (b := 0) (v := 0) hm0 hm) (nR_of (by decide)) (cc_197 Λ X Y) rfl gL_fails_X4_boat rfl rfl rfl hd_X4_boat ⟨by decide, by decide⟩ rfl rfl (Nat.le_of_ble_eq_true rfl) dL_fails_165 ?_
  refine v_topi (y := (-1)) (er_boat h2) ?_
  refine v_iconst (v := (-1)) hC dL_fails_168 (by decide) ?_
  refine v_icmp_ne (tgt := 284) hC dL_fails_169 (by decide) (fun h => absurd rfl h) (fun _ => ?_)
  refine v_aload_n hC dL_fails_172 3 rfl ?_
  refine v_iload hC dL_fails_173 0 rfl ?_
  refine v_iconst (v := 0) hC dL_fails_175 (by decide) ?_
  refine v_callVr (v := .int (rankC X m (nI m) 0)) (C2 := CC Λ X Y) (As := [.int (nI m), .int 0]) (rest := []) hC 2 197 (c_X4_rank Λ X Y (s := nI m) (n := 0) hm0 hm) (nR_of (by decide)) (cc_197 Λ X Y) rfl gL_fails_X4_rank rfl rfl rfl hd_X4_rank ⟨by decide, by decide⟩ rfl rfl (Nat.le_of_ble_eq_true rfl) dL_fails_176 ?_
  refine v_topi (y := (-1)) (er_rank h1) ?_
  refine v_iconst (v := (-1)) hC dL_fails_179 (by decide) ?_
  refine v_icmp_ne (tgt := 284) hC dL_fails_180 (by decide) (fun h => absurd rfl h) (fun _ => ?_)
  refine v_aload_n hC dL_fails_183 3 rfl ?_
  refine v_iload hC dL_fails_184 0 rfl ?_
  refine v_iconst (v := 0) hC dL_fails_186 (by decide) ?_
  refine v_callVr (v := .int (placeC X m (nI m) 0)) (C2 := CC Λ X Y) (As := [.int (nI m), .int 0]) (rest := []) hC 2 197 (c_X4_at Λ X Y (s := nI m) (n := 0) hm0 hm) (nR_of (by decide)) (cc_197 Λ X Y) rfl gL_fails_X4_at rfl rfl rfl hd_X4_at ⟨by decide, by decide⟩ rfl rfl (Nat.le_of_ble_eq_true rfl) dL_fails_187 ?_
  refine v_topi (y := (-1)) (er_at h1) ?_
  refine v_iconst (v := (-1)) hC dL_fails_190 (by decide) ?_
  refine v_icmp_ne (tgt := 284) hC dL_fails_191 (by decide) (fun h => absurd rfl h) (fun _ => ?_)
  refine v_aload_n hC dL_fails_194 3 rfl ?_
  refine v_iload hC dL_fails_195 0 rfl ?_
  refine v_iconst (v := 0) hC dL_fails_197 (by decide) ?_
  refine v_callVr (v := .int (nextC X m (nI m) 0)) (C2 := CC Λ X Y) (As := [.int (nI m), .int 0]) (rest := []) hC 2 197 (c_X4_next Λ X Y (s := nI m) (n := 0) hm0 hm) (nR_of (by decide)) (cc_197 Λ X Y) rfl gL_fails_X4_next rfl rfl rfl hd_X4_next ⟨by decide, by decide⟩ rfl rfl (Nat.le_of_ble_eq_true rfl) dL_fails_198 ?_
  refine v_topi (y := (-1)) (er_next h1) ?_
  refine v_iconst (v := (-1)) hC dL_fails_201 (by decide) ?_
  refine v_icmp_ne (tgt := 284) hC dL_fails_202 (by decide) (fun h => absurd rfl h) (fun _ => ?_)
  refine v_aload_n hC dL_fails_205 3 rfl ?_
  refine v_iload hC dL_fails_206 0 rfl ?_
  refine v_iconst (v := 0) hC dL_fails_208 (by decide) ?_
  refine v_callVr (v := .int (nearC X m (nI m) 0)) (C2 := CC Λ X Y) (As := [.int (nI m), .int 0]) (rest := []) hC 2 197 (c_X4_nearest Λ X Y (s := nI m) (n := 0) hm0 hm) (nR_of (by decide)) (cc_197 Λ X Y) rfl gL_fails_X4_nearest rfl rfl rfl hd_X4_nearest ⟨by decide, by decide⟩ rfl rfl (Nat.le_of_ble_eq_true rfl) dL_fails_209 ?_
  refine v_topi (y := (-1)) (er_near h1) ?_
  refine v_iconst (v := (-1)) hC dL_fails_212 (by decide) ?_
  refine v_icmp_ne (tgt := 284) hC dL_fails_213 (by decide) (fun h => absurd rfl h) (fun _ => ?_)
  refine v_aload_n hC dL_fails_216 3 rfl ?_
  refine v_iload hC dL_fails_217 0 rfl ?_
  refine v_iconst (v := 1) hC dL_fails_219 (by decide) ?_
  refine v_callVr (v := .int (gapC X m (nI m) 1)) (C2 := CC Λ X Y) (As := [.int (nI m), .int 1]) (rest := []) hC 2 197 (c_X4_gap Λ X Y (s := nI m) (len := 1) hm0 hm) (nR_of (by decide)) (cc_197 Λ X Y) rfl gL_fails_X4_gap rfl rfl rfl hd_X4_gap ⟨by decide, by decide⟩ rfl rfl (Nat.le_of_ble_eq_true rfl) dL_fails_220 ?_
  refine v_topi (y := (-1)) (er_gap h1) ?_
  refine v_iconst (v := (-1)) hC dL_fails_223 (by decide) ?_
  refine v_icmp_ne (tgt := 284) hC dL_fails_224 (by decide) (fun h => absurd rfl h) (fun _ => ?_)
  refine v_aload_n hC dL_fails_227 3 rfl ?_
  refine v_iconst (v := 0) hC dL_fails_228 (by decide) ?_
  refine v_iload hC dL_fails_229 0 rfl ?_
  refine v_iconst (v := 0) hC dL_fails_231 (by decide) ?_
  refine v_callVr (v := .int (sizeC X m 0 (nI m) 0)) (C2 := CC Λ X Y) (As := [.int 0, .int (nI m), .int 0]) (rest := []) hC 3 197 (c_X4_sizeOf Λ X Y (how := 0) (s := nI m) (o := 0) hm0 hm) (nR_of (by decide)) (cc_197 Λ X Y) rfl gL_fails_X4_sizeOf rfl rfl rfl hd_X4_sizeOf ⟨by decide, by decide⟩ rfl rfl (Nat.le_of_ble_eq_true rfl) dL_fails_232 ?_
  refine v_topi (y := (-1)) (er_size h1) ?_
  refine v_iconst (v := (-1)) hC dL_fails_235 (by decide) ?_
  refine v_icmp_ne (tgt := 284) hC dL_fails_236 (by decide) (fun h => absurd rfl h) (fun _ => ?_)
  refine v_aload_n hC dL_fails_239 3 rfl ?_
  refine v_iconst (v := (-1)) hC dL_fails_240 (by decide) ?_
  refine v_callVr (v := .int (allC X m (-1))) (C2 := CC Λ X Y) (As := [.int (-1)]) (rest := []) hC 1 197 (c_X4_ofAll Λ X Y (p := (-1)) hm0 hm) (nR_of (by decide)) (cc_197 Λ X Y) rfl gL_fails_X4_ofAll rfl rfl rfl hd_X4_ofAll ⟨by decide, by decide⟩ rfl rfl (Nat.le_of_ble_eq_true rfl) dL_fails_241 ?_
  refine v_topi (y := (-2)) er_all ?_
  refine v_bipush (v := (-2)) hC dL_fails_244 (by decide) ?_
  refine v_icmp_ne (tgt := 284) hC dL_fails_246 (by decide) (fun h => absurd rfl h) (fun _ => ?_)
  refine v_aload_n hC dL_fails_249 3 rfl ?_
  refine v_iload hC dL_fails_250 0 rfl ?_
  refine v_callVr (v := .int (-1)) (C2 := CC Λ X Y) (As := [.int (nI m)]) (rest := []) hC 1 197 (con_E (c_X4_tollToDock Λ X Y (s := nI m) hm0 hm) (er_toll h1)) (nR_of (by decide)) (cc_197 Λ X Y) rfl gL_fails_X4_tollToDock rfl rfl rfl hd_X4_tollToDock ⟨by decide, by decide⟩ rfl rfl (Nat.le_of_ble_eq_true rfl) dL_fails_252 ?_
  refine v_iconst (v := (-1)) hC dL_fails_255 (by decide) ?_
  refine v_icmp_ne (tgt := 284) hC dL_fails_256 (by decide) (fun h => absurd rfl h) (fun _ => ?_)
  refine v_aload_n hC dL_fails_259 3 rfl ?_
  refine v_bipush (v := 11) hC dL_fails_260 (by decide) ?_
  refine v_callVr (v := .int (cntC X m t 0 11)) (C2 := CC Λ X Y) (As := [.int 11]) (rest := []) hC 1 197 (c_X4_count Λ X Y (v := 11) hm0 hm hp0 ht4 hl0 (Nat.zero_le _)) (nR_of (by decide)) (cc_197 Λ X Y) rfl gL_fails_X4_count rfl rfl rfl hd_X4_count ⟨by decide, by decide⟩ rfl rfl (Nat.le_of_ble_eq_true rfl) dL_fails_262 ?_
  refine v_topi (y := (-2)) er_cnt11 ?_
  refine v_bipush (v := (-2)) hC dL_fails_265 (by decide) ?_
  refine v_icmp_ne (tgt := 284) hC dL_fails_267 (by decide) (fun h => absurd rfl h) (fun _ => ?_)
  refine v_aload_n hC dL_fails_270 3 rfl ?_
  refine v_iconst (v := (-1)) hC dL_fails_271 (by decide) ?_
  refine v_callVr (v := .int (cntC X m t 0 (-1))) (C2 := CC Λ X Y) (As := [.int (-1)]) (rest := []) hC 1 197 (c_X4_count Λ X Y (v := (-1)) hm0 hm hp0 ht4 hl0 (Nat.zero_le _)) (nR_of (by decide)) (cc_197 Λ X Y) rfl gL_fails_X4_count rfl rfl rfl hd_X4_count ⟨by decide, by decide⟩ rfl rfl (Nat.le_of_ble_eq_true rfl) dL_fails_272 ?_
  refine v_topi (y := (-2)) er_cntm ?_
  refine v_bipush (v := (-2)) hC dL_fails_275 (by decide) ?_
  refine v_icmp_ne (tgt := 284) hC dL_fails_277 (by decide) (fun h => absurd rfl h) (fun _ => ?_)
  refine v_iconst (v := 1) hC dL_fails_280 (by decide) ?_
  refine v_goto (tgt := 285) hC dL_fails_281 (by decide) ?_
  refine v_istore (lv' := [(5, .int 1), (4, .int (nI m)), (3, .int (cntC X m t 0 9)), (1, .long (markX X m t 0)), (0, rf Λ 197)]) hC dL_fails_285 (by decide) rfl ?_
  have J529 : V Λ κ (CC Λ X Y) 529 [(5, .int 1), (4, .int (nI m)), (3, .int (cntC X m t 0 9)), (1, .long (markX X m t 0)), (0, rf Λ 197)] [] := by
    refine v_iconst (v := 1) hC dL_fails_529 (by decide) ?_
    refine v_goto (tgt := 534) hC dL_fails_530 (by decide) ?_
    refine v_istore (lv' := [(5, .int 1), (4, .int (nI m)), (3, .int (cntC X m t 0 9)), (1, .long (markX X m t 0)), (0, rf Λ 197)]) hC dL_fails_534 (by decide) rfl ?_
    refine v_iload hC dL_fails_536 0 rfl ?_
    refine v_if_eq (tgt := 564) hC dL_fails_538 (by decide) (fun h => absurd h (show ¬ (1 : Int32) = 0 by decide)) (fun _ => ?_)
    refine v_aload_n hC dL_fails_541 4 rfl ?_
    refine v_callSr (v := .long (markX X m t 0)) (C2 := CC Λ X Y) (As := [rf Λ 197]) (rest := []) hC 1 (c_L_mark Λ X Y hm0 hm hp0 ht4 hl0) gL_fails_L_mark rfl rfl rfl hd_L_mark ⟨by decide, by decide⟩ rfl rfl (Nat.le_of_ble_eq_true rfl) dL_fails_542 ?_
    refine v_lload_n hC dL_fails_545 3 rfl ?_
    refine v_lcmp hC dL_fails_546 ?_
    refine v_topi (y := 0) (lgc_self _) ?_
    refine v_if_ne (tgt := 564) hC dL_fails_547 (by decide) (fun h => absurd rfl h) (fun _ => ?_)
    refine v_aload_n hC dL_fails_550 4 rfl ?_
    refine v_bipush (v := 9) hC dL_fails_551 (by decide) ?_
    refine v_callVr (v := .int (cntC X m t 0 9)) (C2 := CC Λ X Y) (As := [.int 9]) (rest := []) hC 1 197 (c_X4_count Λ X Y (v := 9) hm0 hm hp0 ht4 hl0 (Nat.zero_le _)) (nR_of (by decide)) (cc_197 Λ X Y) rfl gL_fails_X4_count rfl rfl rfl hd_X4_count ⟨by decide, by decide⟩ rfl rfl (Nat.le_of_ble_eq_true rfl) dL_fails_553 ?_
    refine v_iload_n hC dL_fails_556 2 rfl ?_
    refine v_icmp_ne (tgt := 564) hC dL_fails_557 (by decide) (fun h => absurd rfl h) (fun _ => ?_)
    refine v_iconst (v := 1) hC dL_fails_560 (by decide) ?_
    refine v_goto (tgt := 565) hC dL_fails_561 (by decide) ?_
    exact v_zret hC hR rfl rfl rfl dL_fails_565
  refine v_iload hC dL_fails_287 0 rfl ?_
  refine v_if_eq (tgt := 533) hC dL_fails_289 (by decide) (fun h => absurd h (show ¬ (1 : Int32) = 0 by decide)) (fun _ => ?_)
  refine v_iload hC dL_fails_292 1 rfl ?_
  refine v_if_eq (tgt := 529) hC dL_fails_294 (by decide) (fun c294 => ?_) (fun c294 => ?_)
  · exact J529
  · have h3 : isC m 0 = true := isC_nI (k := 0) (Nat.pos_of_ne_zero (fun z => c294 (by rw [z]; rfl))) hm
    refine v_aload_n hC dL_fails_297 4 rfl ?_
    refine v_iconst (v := 0) hC dL_fails_298 (by decide) ?_
    refine v_iconst (v := 0) hC dL_fails_299 (by decide) ?_
    refine v_callVr (v := .int (-2)) (C2 := CC Λ X Y) (As := [.int 0, .int 0]) (rest := []) hC 2 197 (con_E (c_X4_pay Λ X Y (s := 0) (c := 0) hm0 hm hp0 ht4 hq) (er_pay2 h3 (Or.inl (by decide)))) (nR_of (by decide)) (cc_197 Λ X Y) rfl gL_fails_X4_pay rfl rfl rfl hd_X4_pay ⟨by decide, by decide⟩ rfl rfl (Nat.le_of_ble_eq_true rfl) dL_fails_300 ?_
    refine v_bipush (v := (-2)) hC dL_fails_303 (by decide) ?_
    refine v_icmp_ne (tgt := 533) hC dL_fails_305 (by decide) (fun h => absurd rfl h) (fun _ => ?_)
    refine v_aload_n hC dL_fails_308 4 rfl ?_
    refine v_iconst (v := 0) hC dL_fails_309 (by decide) ?_
    refine v_sipush (v := 10000) hC dL_fails_310 (by decide) ?_
    refine v_callVr (v := .int (-2)) (C2 := CC Λ X Y) (As := [.int 0, .int 10000]) (rest := []) hC 2 197 (con_E (c_X4_pay Λ X Y (s := 0) (c := 10000) hm0 hm hp0 ht4 hq) (er_pay2 h3 (Or.inr (by decide)))) (nR_of (by decide)) (cc_197 Λ X Y) rfl gL_fails_X4_pay rfl rfl rfl hd_X4_pay ⟨by decide, by decide⟩ rfl rfl (Nat.le_of_ble_eq_true rfl) dL_fails_313 ?_
    refine v_bipush (v := (-2)) hC dL_fails_316 (by decide) ?_
    refine v_icmp_ne (tgt := 533) hC dL_fails_318 (by decide) (fun h => absurd rfl h) (fun _ => ?_)
    refine v_aload_n hC dL_fails_321 4 rfl ?_
    refine v_iconst (v := 0) hC dL_fails_322 (by decide) ?_
    refine v_sipush (v := 2048) hC dL_fails_323 (by decide) ?_
    refine v_callVr (v := .int (-2)) (C2 := CC Λ X Y) (As := [.int 0, .int 2048]) (rest := []) hC 2 197 (con_E (c_X4_add Λ X Y (s := 0) (n := 2048) hm0 hm hp0 ht4 hq) (er_add2 h3 (by decide))) (nR_of (by decide)) (cc_197 Λ X Y) rfl gL_fails_X4_add rfl rfl rfl hd_X4_add ⟨by decide, by decide⟩ rfl rfl (Nat.le_of_ble_eq_true rfl) dL_fails_326 ?_
    refine v_bipush (v := (-2)) hC dL_fails_329 (by decide) ?_
    refine v_icmp_ne (tgt := 533) hC dL_fails_331 (by decide) (fun h => absurd rfl h) (fun _ => ?_)
    refine v_aload_n hC dL_fails_334 4 rfl ?_
    refine v_iconst (v := 0) hC dL_fails_335 (by decide) ?_
    refine v_iconst (v := (-1)) hC dL_fails_336 (by decide) ?_
    refine v_callVr (v := .int (-2)) (C2 := CC Λ X Y) (As := [.int 0, .int (-1)]) (rest := []) hC 2 197 (con_E (c_X4_remove Λ X Y (s := 0) (n := (-1)) hm0 hm hp0 ht4 hq) (er_rem2 h3 (by decide))) (nR_of (by decide)) (cc_197 Λ X Y) rfl gL_fails_X4_remove rfl rfl rfl hd_X4_remove ⟨by decide, by decide⟩ rfl rfl (Nat.le_of_ble_eq_true rfl) dL_fails_337 ?_
    refine v_bipush (v := (-2)) hC dL_fails_340 (by decide) ?_
    refine v_icmp_ne (tgt := 533) hC dL_fails_342 (by decide) (fun h => absurd rfl h) (fun _ => ?_)
    refine v_aload_n hC dL_fails_345 4 rfl ?_
    refine v_iconst (v := 0) hC dL_fails_346 (by decide) ?_
    refine v_iconst (v := 5) hC dL_fails_347 (by decide) ?_
    refine v_iconst (v := 4) hC dL_fails_348 (by decide) ?_
    refine v_callVr (v := .int (-2)) (C2 := CC Λ X Y) (As := [.int 0, .int 5, .int 4]) (rest := []) hC 3 197 (con_E (c_X4_addRange Λ X Y (s := 0) (u := 5) (v := 4) hm0 hm hp0 ht4 hq) (er_mr2 h3 (by decide))) (nR_of (by decide)) (cc_197 Λ X Y) rfl gL_fails_X4_addRange rfl rfl rfl hd_X4_addRange ⟨by decide, by decide⟩ rfl rfl (Nat.le_of_ble_eq_true rfl) dL_fails_349 ?_
    refine v_bipush (v := (-2)) hC dL_fails_352 (by decide) ?_
    refine v_icmp_ne (tgt := 533) hC dL_fails_354 (by decide) (fun h => absurd rfl h) (fun _ => ?_)
    refine v_aload_n hC dL_fails_357 4 rfl ?_
    refine v_iconst (v := 0) hC dL_fails_358 (by decide) ?_
    refine v_iconst (v := (-1)) hC dL_fails_359 (by decide) ?_
    refine v_iconst (v := 4) hC dL_fails_360 (by decide) ?_
    refine v_callVr (v := .int (-2)) (C2 := CC Λ X Y) (As := [.int 0, .int (-1), .int 4]) (rest := []) hC 3 197 (con_E (c_X4_addRange Λ X Y (s := 0) (u := (-1)) (v := 4) hm0 hm hp0 ht4 hq) (er_mr2 h3 (by decide))) (nR_of (by decide)) (cc_197 Λ X Y) rfl gL_fails_X4_addRange rfl rfl rfl hd_X4_addRange ⟨by decide, by decide⟩ rfl rfl (Nat.le_of_ble_eq_true rfl) dL_fails_361 ?_
    refine v_bipush (v := (-2)) hC dL_fails_364 (by decide) ?_
    refine v_icmp_ne (tgt := 533) hC dL_fails_366 (by decide) (fun h => absurd rfl h) (fun _ => ?_)
    refine v_aload_n hC dL_fails_369 4 rfl ?_
    refine v_iconst (v := 0) hC dL_fails_370 (by decide) ?_
    refine v_iconst (v := 0) hC dL_fails_371 (by decide) ?_
    refine v_sipush (v := 2048) hC dL_fails_372 (by decide) ?_
    refine v_callVr (v := .int (-2)) (C2 := CC Λ X Y) (As := [.int 0, .int 0, .int 2048]) (rest := []) hC 3 197 (con_E (c_X4_removeRange Λ X Y (s := 0) (u := 0) (v := 2048) hm0 hm hp0 ht4 hq) (er_mr2 h3 (by decide))) (nR_of (by decide)) (cc_197 Λ X Y) rfl gL_fails_X4_removeRange rfl rfl rfl hd_X4_removeRange ⟨by decide, by decide⟩ rfl rfl (Nat.le_of_ble_eq_true rfl) dL_fails_375 ?_
    refine v_bipush (v := (-2)) hC dL_fails_378 (by decide) ?_
    refine v_icmp_ne (tgt := 533) hC dL_fails_380 (by decide) (fun h => absurd rfl h) (fun _ => ?_)
    refine v_aload_n hC dL_fails_383 4 rfl ?_
    refine v_iconst (v := 4) hC dL_fails_384 (by decide) ?_
    refine v_iconst (v := 0) hC dL_fails_385 (by decide) ?_
    refine v_iconst (v := 0) hC dL_fails_386 (by decide) ?_
    refine v_iconst (v := 0) hC dL_fails_387 (by decide) ?_
    refine v_callVr (v := .int (-2)) (C2 := CC Λ X Y) (As := [.int 4, .int 0, .int 0, .int 0]) (rest := []) hC 4 197 (con_E (c_X4_combine Λ X Y (how := 4) (s := 0) (u := 0) (v := 0) hm0 hm hp0 ht4 hq) (er_comb2 h3)) (nR_of (by decide)) (cc_197 Λ X Y) rfl gL_fails_X4_combine rfl rfl rfl hd_X4_combine ⟨by decide, by decide⟩ rfl rfl (Nat.le_of_ble_eq_true rfl) dL_fails_388 ?_
    refine v_bipush (v := (-2)) hC dL_fails_391 (by decide) ?_
    refine v_icmp_ne (tgt := 533) hC dL_fails_393 (by decide) (fun h => absurd rfl h) (fun _ => ?_)
    refine v_aload_n hC dL_fails_396 4 rfl ?_
    refine v_iconst (v := 0) hC dL_fails_397 (by decide) ?_
    refine v_iconst (v := (-1)) hC dL_fails_398 (by decide) ?_
    refine v_callVr (v := .int (hasC X m 0 (-1))) (C2 := CC Λ X Y) (As := [.int 0, .int (-1)]) (rest := []) hC 2 197 (c_X4_has Λ X Y (s := 0) (n := (-1)) hm0 hm) (nR_of (by decide)) (cc_197 Λ X Y) rfl gL_fails_X4_has rfl rfl rfl hd_X4_has ⟨by decide, by decide⟩ rfl rfl (Nat.le_of_ble_eq_true rfl) dL_fails_399 ?_
    refine v_topi (y := (-2)) (er_has2 h3 (by decide)) ?_
    refine v_bipush (v := (-2)) hC dL_fails_402 (by decide) ?_
    refine v_icmp_ne (tgt := 533) hC dL_fails_404 (by decide) (fun h => absurd rfl h) (fun _ => ?_)
    refine v_aload_n hC dL_fails_407 4 rfl ?_
    refine v_iconst (v := 0) hC dL_fails_408 (by decide) ?_
    refine v_bipush (v := 10) hC dL_fails_409 (by decide) ?_
    refine v_callVr (v := .int (setC X m 0 10)) (C2 := CC Λ X Y) (As := [.int 0, .int 10]) (rest := []) hC 2 197 (c_X4_set Λ X Y (s := 0) (v := 10) hm0 hm) (nR_of (by decide)) (cc_197 Λ X Y) rfl gL_fails_X4_set rfl rfl rfl hd_X4_set ⟨by decide, by decide⟩ rfl rfl (Nat.le_of_ble_eq_true rfl) dL_fails_411 ?_
    refine v_topi (y := (-2)) (er_set2 h3) ?_
    refine v_bipush (v := (-2)) hC dL_fails_414 (by decide) ?_
    refine v_icmp_ne (tgt := 533) hC dL_fails_416 (by decide) (fun h => absurd rfl h) (fun _ => ?_)
    refine v_aload_n hC dL_fails_419 4 rfl ?_
    refine v_iconst (v := 0) hC dL_fails_420 (by decide) ?_
    refine v_bipush (v := 8) hC dL_fails_421 (by decide) ?_
    refine v_iconst (v := 0) hC dL_fails_423 (by decide) ?_
    refine v_callVr (v := .int (boatC X m 0 8 0)) (C2 := CC Λ X Y) (As := [.int 0, .int 8, .int 0]) (rest := []) hC 3 197 (c_X4_boat Λ X Y (s := 0) (b := 8) (v := 0) hm0 hm) (nR_of (by decide)) (cc_197 Λ X Y) rfl gL_fails_X4_boat rfl rfl rfl hd_X4_boat ⟨by decide, by decide⟩ rfl rfl (Nat.le_of_ble_eq_true rfl) dL_fails_424 ?_
    refine v_topi (y := (-2)) (er_boat2 h3 (Or.inr (Or.inl (by decide)))) ?_
    refine v_bipush (v := (-2)) hC dL_fails_427 (by decide) ?_
    refine v_icmp_ne (tgt := 533) hC dL_fails_429 (by decide) (fun h => absurd rfl h) (fun _ => ?_)
    refine v_aload_n hC dL_fails_432 4 rfl ?_
    refine v_iconst (v := 0) hC dL_fails_433 (by decide) ?_
    refine v_iconst (v := 0) hC dL_fails_434 (by decide) ?_
    refine v_bipush (v := 6) hC dL_fails_435 (by decide) ?_
    refine v_callVr (v := .int (boatC X m 0 0 6)) (C2 := CC Λ X Y) (As := [.int 0, .int 0, .int 6]) (rest := []) hC 3 197 (c_X4_boat Λ X Y (s := 0) (b := 0) (v := 6) hm0 hm) (nR_of (by decide)) (cc_197 Λ X Y) rfl gL_fails_X4_boat rfl rfl rfl hd_X4_boat ⟨by decide, by decide⟩ rfl rfl (Nat.le_of_ble_eq_true rfl) dL_fails_437 ?_
    refine v_topi (y := (-2)) (er_boat2 h3 (Or.inr (Or.inr (Or.inr (by decide))))) ?_
    refine v_bipush (v := (-2)) hC dL_fails_440 (by decide) ?_
    refine v_icmp_ne (tgt := 533) hC dL_fails_442 (by decide) (fun h => absurd rfl h) (fun _ => ?_)
    refine v_aload_n hC dL_fails_445 4 rfl ?_
    refine v_iconst (v := 0) hC dL_fails_446 (by decide) ?_
    refine v_sipush (v := 2048) hC dL_fails_447 (by decide) ?_
    refine v_callVr (v := .int (rankC X m 0 2048)) (C2 := CC Λ X Y) (As := [.int 0, .int 2048]) (rest := []) hC 2 197 (c_X4_rank Λ X Y (s := 0) (n := 2048) hm0 hm) (nR_of (by decide)) (cc_197 Λ X Y) rfl gL_fails_X4_rank rfl rfl rfl hd_X4_rank ⟨by decide, by decide⟩ rfl rfl (Nat.le_of_ble_eq_true rfl) dL_fails_450 ?_
    refine v_topi (y := (-2)) (er_rank2 h3 (by decide)) ?_
    refine v_bipush (v := (-2)) hC dL_fails_453 (by decide) ?_
    refine v_icmp_ne (tgt := 533) hC dL_fails_455 (by decide) (fun h => absurd rfl h) (fun _ => ?_)
    refine v_aload_n hC dL_fails_458 4 rfl ?_
    refine v_iconst (v := 0) hC dL_fails_459 (by decide) ?_
    refine v_iconst (v := (-1)) hC dL_fails_460 (by decide) ?_
    refine v_callVr (v := .int (placeC X m 0 (-1))) (C2 := CC Λ X Y) (As := [.int 0, .int (-1)]) (rest := []) hC 2 197 (c_X4_at Λ X Y (s := 0) (n := (-1)) hm0 hm) (nR_of (by decide)) (cc_197 Λ X Y) rfl gL_fails_X4_at rfl rfl rfl hd_X4_at ⟨by decide, by decide⟩ rfl rfl (Nat.le_of_ble_eq_true rfl) dL_fails_461 ?_
    refine v_topi (y := (-2)) (er_at2 h3 (by decide)) ?_
    refine v_bipush (v := (-2)) hC dL_fails_464 (by decide) ?_
    refine v_icmp_ne (tgt := 533) hC dL_fails_466 (by decide) (fun h => absurd rfl h) (fun _ => ?_)
    refine v_aload_n hC dL_fails_469 4 rfl ?_
    refine v_iconst (v := 0) hC dL_fails_470 (by decide) ?_
    refine v_sipush (v := 2048) hC dL_fails_471 (by decide) ?_
    refine v_callVr (v := .int (nextC X m 0 2048)) (C2 := CC Λ X Y) (As := [.int 0, .int 2048]) (rest := []) hC 2 197 (c_X4_next Λ X Y (s := 0) (n := 2048) hm0 hm) (nR_of (by decide)) (cc_197 Λ X Y) rfl gL_fails_X4_next rfl rfl rfl hd_X4_next ⟨by decide, by decide⟩ rfl rfl (Nat.le_of_ble_eq_true rfl) dL_fails_474 ?_
    refine v_topi (y := (-2)) (er_next2 h3 (by decide)) ?_
    refine v_bipush (v := (-2)) hC dL_fails_477 (by decide) ?_
    refine v_icmp_ne (tgt := 533) hC dL_fails_479 (by decide) (fun h => absurd rfl h) (fun _ => ?_)
    refine v_aload_n hC dL_fails_482 4 rfl ?_
    refine v_iconst (v := 0) hC dL_fails_483 (by decide) ?_
    refine v_iconst (v := (-1)) hC dL_fails_484 (by decide) ?_
    refine v_callVr (v := .int (nearC X m 0 (-1))) (C2 := CC Λ X Y) (As := [.int 0, .int (-1)]) (rest := []) hC 2 197 (c_X4_nearest Λ X Y (s := 0) (n := (-1)) hm0 hm) (nR_of (by decide)) (cc_197 Λ X Y) rfl gL_fails_X4_nearest rfl rfl rfl hd_X4_nearest ⟨by decide, by decide⟩ rfl rfl (Nat.le_of_ble_eq_true rfl) dL_fails_485 ?_
    refine v_topi (y := (-2)) (er_near2 h3 (by decide)) ?_
    refine v_bipush (v := (-2)) hC dL_fails_488 (by decide) ?_
    refine v_icmp_ne (tgt := 533) hC dL_fails_490 (by decide) (fun h => absurd rfl h) (fun _ => ?_)
    refine v_aload_n hC dL_fails_493 4 rfl ?_
    refine v_iconst (v := 0) hC dL_fails_494 (by decide) ?_
    refine v_iconst (v := 0) hC dL_fails_495 (by decide) ?_
    refine v_callVr (v := .int (gapC X m 0 0)) (C2 := CC Λ X Y) (As := [.int 0, .int 0]) (rest := []) hC 2 197 (c_X4_gap Λ X Y (s := 0) (len := 0) hm0 hm) (nR_of (by decide)) (cc_197 Λ X Y) rfl gL_fails_X4_gap rfl rfl rfl hd_X4_gap ⟨by decide, by decide⟩ rfl rfl (Nat.le_of_ble_eq_true rfl) dL_fails_496 ?_
    refine v_topi (y := (-2)) (er_gap2 h3 (Or.inl (by decide))) ?_
    refine v_bipush (v := (-2)) hC dL_fails_499 (by decide) ?_
    refine v_icmp_ne (tgt := 533) hC dL_fails_501 (by decide) (fun h => absurd rfl h) (fun _ => ?_)
    refine v_aload_n hC dL_fails_504 4 rfl ?_
    refine v_iconst (v := 0) hC dL_fails_505 (by decide) ?_
    refine v_sipush (v := 2049) hC dL_fails_506 (by decide) ?_
    refine v_callVr (v := .int (gapC X m 0 2049)) (C2 := CC Λ X Y) (As := [.int 0, .int 2049]) (rest := []) hC 2 197 (c_X4_gap Λ X Y (s := 0) (len := 2049) hm0 hm) (nR_of (by decide)) (cc_197 Λ X Y) rfl gL_fails_X4_gap rfl rfl rfl hd_X4_gap ⟨by decide, by decide⟩ rfl rfl (Nat.le_of_ble_eq_true rfl) dL_fails_509 ?_
    refine v_topi (y := (-2)) (er_gap2 h3 (Or.inr (by decide))) ?_
    refine v_bipush (v := (-2)) hC dL_fails_512 (by decide) ?_
    refine v_icmp_ne (tgt := 533) hC dL_fails_514 (by decide) (fun h => absurd rfl h) (fun _ => ?_)
    refine v_aload_n hC dL_fails_517 4 rfl ?_
    refine v_iconst (v := (-1)) hC dL_fails_518 (by decide) ?_
    refine v_iconst (v := 0) hC dL_fails_519 (by decide) ?_
    refine v_iconst (v := 0) hC dL_fails_520 (by decide) ?_
    refine v_callVr (v := .int (sizeC X m (-1) 0 0)) (C2 := CC Λ X Y) (As := [.int (-1), .int 0, .int 0]) (rest := []) hC 3 197 (c_X4_sizeOf Λ X Y (how := (-1)) (s := 0) (o := 0) hm0 hm) (nR_of (by decide)) (cc_197 Λ X Y) rfl gL_fails_X4_sizeOf rfl rfl rfl hd_X4_sizeOf ⟨by decide, by decide⟩ rfl rfl (Nat.le_of_ble_eq_true rfl) dL_fails_521 ?_
    refine v_topi (y := (-2)) (er_size2 h3) ?_
    refine v_bipush (v := (-2)) hC dL_fails_524 (by decide) ?_
    refine v_icmp_ne (tgt := 533) hC dL_fails_526 (by decide) (fun h => absurd rfl h) (fun _ => ?_)
    exact J529
