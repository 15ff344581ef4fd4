/-! The law: its small methods -/
theorem wd_L_cell_c7 : Cond.constant RL 7 (763049417) ∈ wsL_cell := by decide +kernel
theorem hd_L_cell : yL_cell.cls ≠ "java/lang/invoke/MethodHandle" ∧ yL_cell.cls ≠ "java/lang/invoke/VarHandle" ∧ (parseMethodDescriptor yL_cell.desc).map (fun d => d.parameters.length) = some 2 := by decide +kernel
set_option maxHeartbeats 400000 in
set_option maxRecDepth 100000 in
theorem c_L_cell (Λ : Lk) (X : XS) (Y : YS) {b L k : Nat} {xs : Nat → Int32} (hL : L < 2 ^ 31) (hk : k < 2 ^ 31) : ConS Λ b L xs yL_cell wsL_cell { frames := 0, cells := 0, slots := 0, locals := 0 } [.ref b, .int (nI k)] (CC Λ X Y) (some (.int (cellF L xs k))) (CC Λ X Y) := by
  refine conS_start (cc := cL_cell) (maxL := 2) (ret := (some .int)) (by decide) rfl (Nat.le_of_ble_eq_true rfl) ?_
  intro κ hC hR hS
  have hC : Ok Λ { frames := 0, cells := 0, slots := 0, locals := 0 } cL_cell wsL_cell RL 2 κ := hC
  refine v_args (lv' := [(0, .ref b), (1, .int (nI k))]) rfl ?_
  refine v_iload_n hC dL_cell_0 1 rfl ?_
  refine v_aload_n (x := b) hC dL_cell_1 0 rfl ?_
  refine v_slen hC hS dL_cell_2 ?_
  refine v_icmp_ge (tgt := 12) hC dL_cell_3 (by decide) (fun c3 => ?_) (fun c3 => ?_)
  · refine v_ldc (v := 763049417) hC dL_cell_12 wd_L_cell_c7 ?_
    refine v_iload_n hC dL_cell_14 1 rfl ?_
    refine v_iconst (v := 3) hC dL_cell_15 (by decide) ?_
    refine v_iadd (x := nI k) (y := 3) hC dL_cell_16 ?_
    refine v_imul (x := 763049417) (y := (nI k) + 3) hC dL_cell_17 ?_
    exact v_iret hC hR (congrArg (fun z => some (Value.int z)) (if_neg (Nat.not_lt.mpr ((nI_leI hL hk).mp c3)))) rfl dL_cell_18
  · have hj : k < L := Nat.lt_of_not_le (fun z => c3 ((nI_leI hL hk).mpr z))
    refine v_aload_n (x := b) hC dL_cell_6 0 rfl ?_
    refine v_iload_n hC dL_cell_7 1 rfl ?_
    refine v_sld hC hS k rfl hj hL dL_cell_8 ?_
    refine v_goto (tgt := 18) hC dL_cell_9 (by decide) ?_
    exact v_iret hC hR (congrArg (fun z => some (Value.int z)) (if_pos hj)) rfl dL_cell_18

theorem wd_L_up_c8 : Cond.constant RL 8 (2147483647) ∈ wsL_up := by decide +kernel
theorem hd_L_up : yL_up.cls ≠ "java/lang/invoke/MethodHandle" ∧ yL_up.cls ≠ "java/lang/invoke/VarHandle" ∧ (parseMethodDescriptor yL_up.desc).map (fun d => d.parameters.length) = some 2 := by decide +kernel
set_option maxHeartbeats 400000 in
set_option maxRecDepth 100000 in
theorem c_L_up (Λ : Lk) (X : XS) (Y : YS) {x : Int32} {n : Nat} (h0 : 0 < n) (hn : n < 2 ^ 31) : Con Λ yL_up wsL_up { frames := 0, cells := 0, slots := 0, locals := 0 } [.int x, .int (nI n)] (CC Λ X Y) (some (.int (nI (upN x n)))) (CC Λ X Y) := by
  refine con_start (cc := cL_up) (maxL := 2) (ret := (some .int)) (by decide) rfl (Nat.le_of_ble_eq_true rfl) ?_
  intro κ hC hR
  have hC : Ok Λ { frames := 0, cells := 0, slots := 0, locals := 0 } cL_up wsL_up RL 2 κ := hC
  refine v_args (lv' := [(0, .int x), (1, .int (nI n))]) rfl ?_
  refine v_iload_n hC dL_up_0 0 rfl ?_
  refine v_ldc (v := 2147483647) hC dL_up_1 wd_L_up_c8 ?_
  refine v_iand (x := x) (y := 2147483647) hC dL_up_3 ?_
  refine v_iload_n hC dL_up_4 1 rfl ?_
  refine v_irem (x := x &&& 2147483647) (y := nI n) hC dL_up_5 (fun z => by have := (nI_eq (b := 0) hn (by decide)).mp z; omega) ?_
  refine v_topi (y := nI (upN x n)) (up_E x h0 hn) ?_
  exact v_iret hC hR rfl rfl dL_up_6

theorem hd_L_units : yL_units.cls ≠ "java/lang/invoke/MethodHandle" ∧ yL_units.cls ≠ "java/lang/invoke/VarHandle" ∧ (parseMethodDescriptor yL_units.desc).map (fun d => d.parameters.length) = some 3 := by decide +kernel
set_option maxHeartbeats 400000 in
set_option maxRecDepth 100000 in
theorem c_L_units (Λ : Lk) (X : XS) (Y : YS) {k x y : Int32} : Con Λ yL_units wsL_units { frames := 0, cells := 0, slots := 0, locals := 0 } [.int k, .int x, .int y] (CC Λ X Y) (some (.int (unL k x y))) (CC Λ X Y) := by
  refine con_start (cc := cL_units) (maxL := 3) (ret := (some .int)) (by decide) rfl (Nat.le_of_ble_eq_true rfl) ?_
  intro κ hC hR
  have hC : Ok Λ { frames := 0, cells := 0, slots := 0, locals := 0 } cL_units wsL_units RL 3 κ := hC
  refine v_args (lv' := [(0, .int k), (1, .int x), (2, .int y)]) rfl ?_
  refine v_iload_n hC dL_units_0 0 rfl ?_
  refine v_if_ne (tgt := 10) hC dL_units_1 (by decide) (fun c1 => ?_) (fun c1 => ?_)
  · refine v_iload_n hC dL_units_10 0 rfl ?_
    refine v_iconst (v := 1) hC dL_units_11 (by decide) ?_
    refine v_icmp_ne (tgt := 20) hC dL_units_12 (by decide) (fun c12 => ?_) (fun c12 => ?_)
    · refine v_iconst (v := 3) hC dL_units_20 (by decide) ?_
      refine v_iload_n hC dL_units_21 2 rfl ?_
      refine v_imul (x := 3) (y := y) hC dL_units_22 ?_
      exact v_iret hC hR (congrArg (fun z => some (Value.int z)) ((if_neg c1).trans (if_neg c12))) rfl dL_units_23
    · refine v_bipush (v := 32) hC dL_units_15 (by decide) ?_
      refine v_goto (tgt := 23) hC dL_units_17 (by decide) ?_
      exact v_iret hC hR (congrArg (fun z => some (Value.int z)) ((if_neg c1).trans (if_pos c12))) rfl dL_units_23
  · refine v_iconst (v := 2) hC dL_units_4 (by decide) ?_
    refine v_iload_n hC dL_units_5 1 rfl ?_
    refine v_imul (x := 2) (y := x) hC dL_units_6 ?_
    refine v_goto (tgt := 23) hC dL_units_7 (by decide) ?_
    exact v_iret hC hR (congrArg (fun z => some (Value.int z)) (if_pos c1)) rfl dL_units_23

theorem hd_L_best : yL_best.cls ≠ "java/lang/invoke/MethodHandle" ∧ yL_best.cls ≠ "java/lang/invoke/VarHandle" ∧ (parseMethodDescriptor yL_best.desc).map (fun d => d.parameters.length) = some 2 := by decide +kernel
set_option maxHeartbeats 400000 in
set_option maxRecDepth 100000 in
theorem c_L_best (Λ : Lk) (X : XS) (Y : YS) {m r : Nat} (hm : m ≤ 256) (hr : r ≤ 256) : Con Λ yL_best wsL_best { frames := 0, cells := 0, slots := 0, locals := 0 } [.int (nI m), .int (nI r)] (CC Λ X Y) (some (.int (bsT m r))) (CC Λ X Y) := by
  refine con_start (cc := cL_best) (maxL := 4) (ret := (some .int)) (by decide) rfl (Nat.le_of_ble_eq_true rfl) ?_
  intro κ hC hR
  have hC : Ok Λ { frames := 0, cells := 0, slots := 0, locals := 0 } cL_best wsL_best RL 4 κ := hC
  refine v_args (lv' := [(0, .int (nI m)), (1, .int (nI r))]) rfl ?_
  obtain ⟨u, hu⟩ : ∃ u : Nat, u = if m ≤ 24 then 2 * m else 99 := ⟨_, rfl⟩
  obtain ⟨v, hv⟩ : ∃ v : Nat, v = if r ≤ 8 then 3 * r else 99 := ⟨_, rfl⟩
  have hu3 : (m ≤ 24 ∧ u = 2 * m) ∨ (¬ m ≤ 24 ∧ u = 99) := by by_cases z : m ≤ 24; exact Or.inl ⟨z, by rw [hu, if_pos z]⟩; exact Or.inr ⟨z, by rw [hu, if_neg z]⟩
  have hv3 : (r ≤ 8 ∧ v = 3 * r) ∨ (¬ r ≤ 8 ∧ v = 99) := by by_cases z : r ≤ 8; exact Or.inl ⟨z, by rw [hv, if_pos z]⟩; exact Or.inr ⟨z, by rw [hv, if_neg z]⟩
  have hu2 : u < 2 ^ 31 := by rw [hu]; split <;> omega
  have hv2 : v < 2 ^ 31 := by rw [hv]; split <;> omega
  have J30 : V Λ κ (CC Λ X Y) 30 [(3, .int (nI v)), (2, .int (nI u)), (0, .int (nI m)), (1, .int (nI r))] [] := by
    refine v_iload_n hC dL_best_30 1 rfl ?_
    refine v_bipush (v := 32) hC dL_best_31 (by decide) ?_
    refine v_icmp_gt (tgt := 45) hC dL_best_33 (by decide) (fun c33 => ?_) (fun c33 => ?_)
    · have a33 : 32 < u := (nI_ltI (a := 32) (by decide) hu2).mp c33
      refine v_iload_n hC dL_best_45 0 rfl ?_
      refine v_bipush (v := 32) hC dL_best_46 (by decide) ?_
      refine v_icmp_ge (tgt := 55) hC dL_best_48 (by decide) (fun c48 => ?_) (fun c48 => ?_)
      · have a48 : 32 ≤ v := (nI_leI (a := 32) (by decide) hv2).mp c48
        refine v_iconst (v := 1) hC dL_best_55 (by decide) ?_
        have e : bsT m r = 1 := by
          rcases hu3 with ⟨x1, x3⟩ | ⟨x1, x3⟩ <;> rcases hv3 with ⟨x2, x4⟩ | ⟨x2, x4⟩ <;> first | exact bsL_1 (by omega) (by omega) (by omega) | exact bsL_2 (by omega) (by omega) | exact bsL_3 (by omega) (by omega) | exact bsL_4 (by omega) (by omega) | (exfalso; omega)
        exact v_iret hC hR (congrArg (fun z => some (Value.int z)) e) rfl dL_best_56
      · have a48 : v < 32 := Nat.lt_of_not_le (fun z => c48 ((nI_leI (a := 32) (by decide) hv2).mpr z))
        refine v_iconst (v := 2) hC dL_best_51 (by decide) ?_
        refine v_goto (tgt := 56) hC dL_best_52 (by decide) ?_
        have e : bsT m r = 2 := by
          rcases hu3 with ⟨x1, x3⟩ | ⟨x1, x3⟩ <;> rcases hv3 with ⟨x2, x4⟩ | ⟨x2, x4⟩ <;> first | exact bsL_1 (by omega) (by omega) (by omega) | exact bsL_2 (by omega) (by omega) | exact bsL_3 (by omega) (by omega) | exact bsL_4 (by omega) (by omega) | (exfalso; omega)
        exact v_iret hC hR (congrArg (fun z => some (Value.int z)) e) rfl dL_best_56
    · have a33 : u ≤ 32 := Nat.le_of_not_lt (fun z => c33 ((nI_ltI (a := 32) (by decide) hu2).mpr z))
      refine v_iload_n hC dL_best_36 1 rfl ?_
      refine v_iload_n hC dL_best_37 0 rfl ?_
      refine v_icmp_gt (tgt := 45) hC dL_best_38 (by decide) (fun c38 => ?_) (fun c38 => ?_)
      · have a38 : v < u := (nI_ltI hv2 hu2).mp c38
        refine v_iload_n hC dL_best_45 0 rfl ?_
        refine v_bipush (v := 32) hC dL_best_46 (by decide) ?_
        refine v_icmp_ge (tgt := 55) hC dL_best_48 (by decide) (fun c48 => ?_) (fun c48 => ?_)
        · have a48 : 32 ≤ v := (nI_leI (a := 32) (by decide) hv2).mp c48
          refine v_iconst (v := 1) hC dL_best_55 (by decide) ?_
          have e : bsT m r = 1 := by
            rcases hu3 with ⟨x1, x3⟩ | ⟨x1, x3⟩ <;> rcases hv3 with ⟨x2, x4⟩ | ⟨x2, x4⟩ <;> first | exact bsL_1 (by omega) (by omega) (by omega) | exact bsL_2 (by omega) (by omega) | exact bsL_3 (by omega) (by omega) | exact bsL_4 (by omega) (by omega) | (exfalso; omega)
          exact v_iret hC hR (congrArg (fun z => some (Value.int z)) e) rfl dL_best_56
        · have a48 : v < 32 := Nat.lt_of_not_le (fun z => c48 ((nI_leI (a := 32) (by decide) hv2).mpr z))
          refine v_iconst (v := 2) hC dL_best_51 (by decide) ?_
          refine v_goto (tgt := 56) hC dL_best_52 (by decide) ?_
          have e : bsT m r = 2 := by
            rcases hu3 with ⟨x1, x3⟩ | ⟨x1, x3⟩ <;> rcases hv3 with ⟨x2, x4⟩ | ⟨x2, x4⟩ <;> first | exact bsL_1 (by omega) (by omega) (by omega) | exact bsL_2 (by omega) (by omega) | exact bsL_3 (by omega) (by omega) | exact bsL_4 (by omega) (by omega) | (exfalso; omega)
          exact v_iret hC hR (congrArg (fun z => some (Value.int z)) e) rfl dL_best_56
      · have a38 : u ≤ v := Nat.le_of_not_lt (fun z => c38 ((nI_ltI hv2 hu2).mpr z))
        refine v_iconst (v := 0) hC dL_best_41 (by decide) ?_
        refine v_goto (tgt := 56) hC dL_best_42 (by decide) ?_
        have e : bsT m r = 0 := by
          rcases hu3 with ⟨x1, x3⟩ | ⟨x1, x3⟩ <;> rcases hv3 with ⟨x2, x4⟩ | ⟨x2, x4⟩ <;> first | exact bsL_1 (by omega) (by omega) (by omega) | exact bsL_2 (by omega) (by omega) | exact bsL_3 (by omega) (by omega) | exact bsL_4 (by omega) (by omega) | (exfalso; omega)
        exact v_iret hC hR (congrArg (fun z => some (Value.int z)) e) rfl dL_best_56
  refine v_iload_n hC dL_best_0 0 rfl ?_
  refine v_bipush (v := 24) hC dL_best_1 (by decide) ?_
  refine v_icmp_gt (tgt := 12) hC dL_best_3 (by decide) (fun c3 => ?_) (fun c3 => ?_)
  · have a3 : ¬ m ≤ 24 := fun z => by have := (nI_ltI (a := 24) (by decide) (by omega)).mp c3; omega
    refine v_bipush (v := 99) hC dL_best_12 (by decide) ?_
    refine v_topi (y := nI u) (by rw [hu, if_neg a3]; rfl) ?_
    refine v_istore_n (lv' := [(2, .int (nI u)), (0, .int (nI m)), (1, .int (nI r))]) hC dL_best_14 (by decide) rfl ?_
    refine v_iload_n hC dL_best_15 2 rfl ?_
    refine v_bipush (v := 8) hC dL_best_16 (by decide) ?_
    refine v_icmp_gt (tgt := 27) hC dL_best_18 (by decide) (fun c18 => ?_) (fun c18 => ?_)
    · have a18 : ¬ r ≤ 8 := fun z => by have := (nI_ltI (a := 8) (by decide) (by omega)).mp c18; omega
      refine v_bipush (v := 99) hC dL_best_27 (by decide) ?_
      refine v_topi (y := nI v) (by rw [hv, if_neg a18]; rfl) ?_
      refine v_istore_n (lv' := [(3, .int (nI v)), (2, .int (nI u)), (0, .int (nI m)), (1, .int (nI r))]) hC dL_best_29 (by decide) rfl ?_
      exact J30
    · have a18 : r ≤ 8 := Nat.le_of_not_lt (fun z => c18 ((nI_ltI (a := 8) (by decide) (by omega)).mpr z))
      refine v_iconst (v := 3) hC dL_best_21 (by decide) ?_
      refine v_iload_n hC dL_best_22 2 rfl ?_
      refine v_imul (x := 3) (y := nI r) hC dL_best_23 ?_
      refine v_goto (tgt := 29) hC dL_best_24 (by decide) ?_
      refine v_topi (y := nI v) (by rw [hv, if_pos a18]; exact pk_mul 3 r) ?_
      refine v_istore_n (lv' := [(3, .int (nI v)), (2, .int (nI u)), (0, .int (nI m)), (1, .int (nI r))]) hC dL_best_29 (by decide) rfl ?_
      exact J30
  · have a3 : m ≤ 24 := Nat.le_of_not_lt (fun z => c3 ((nI_ltI (a := 24) (by decide) (by omega)).mpr z))
    refine v_iconst (v := 2) hC dL_best_6 (by decide) ?_
    refine v_iload_n hC dL_best_7 0 rfl ?_
    refine v_imul (x := 2) (y := nI m) hC dL_best_8 ?_
    refine v_goto (tgt := 14) hC dL_best_9 (by decide) ?_
    refine v_topi (y := nI u) (by rw [hu, if_pos a3]; exact pk_mul 2 m) ?_
    refine v_istore_n (lv' := [(2, .int (nI u)), (0, .int (nI m)), (1, .int (nI r))]) hC dL_best_14 (by decide) rfl ?_
    refine v_iload_n hC dL_best_15 2 rfl ?_
    refine v_bipush (v := 8) hC dL_best_16 (by decide) ?_
    refine v_icmp_gt (tgt := 27) hC dL_best_18 (by decide) (fun c18 => ?_) (fun c18 => ?_)
    · have a18 : ¬ r ≤ 8 := fun z => by have := (nI_ltI (a := 8) (by decide) (by omega)).mp c18; omega
      refine v_bipush (v := 99) hC dL_best_27 (by decide) ?_
      refine v_topi (y := nI v) (by rw [hv, if_neg a18]; rfl) ?_
      refine v_istore_n (lv' := [(3, .int (nI v)), (2, .int (nI u)), (0, .int (nI m)), (1, .int (nI r))]) hC dL_best_29 (by decide) rfl ?_
      exact J30
    · have a18 : r ≤ 8 := Nat.le_of_not_lt (fun z => c18 ((nI_ltI (a := 8) (by decide) (by omega)).mpr z))
      refine v_iconst (v := 3) hC dL_best_21 (by decide) ?_
      refine v_iload_n hC dL_best_22 2 rfl ?_
      refine v_imul (x := 3) (y := nI r) hC dL_best_23 ?_
      refine v_goto (tgt := 29) hC dL_best_24 (by decide) ?_
      refine v_topi (y := nI v) (by rw [hv, if_pos a18]; exact pk_mul 3 r) ?_
      refine v_istore_n (lv' := [(3, .int (nI v)), (2, .int (nI u)), (0, .int (nI m)), (1, .int (nI r))]) hC dL_best_29 (by decide) rfl ?_
      exact J30

theorem hd_L_pairs : yL_pairs.cls ≠ "java/lang/invoke/MethodHandle" ∧ yL_pairs.cls ≠ "java/lang/invoke/VarHandle" ∧ (parseMethodDescriptor yL_pairs.desc).map (fun d => d.parameters.length) = some 3 := by decide +kernel
set_option maxHeartbeats 400000 in
set_option maxRecDepth 100000 in
theorem c_L_pairs (Λ : Lk) (X : XS) (Y : YS) {m a b : Nat} (hm0 : xh X 0 = nI m) (hm : m ≤ 6) (ha : a < m) (hb : b < m) (hga : Gd (X.1 a)) (hgb : Gd (X.1 b)) : Con Λ yL_pairs wsL_pairs { frames := 4, cells := 0, slots := 0, locals := 93 } [rf Λ 197, .int (nI a), .int (nI b)] (CC Λ X Y) (some (.int 1)) (CC Λ X Y) := by
  refine con_start (cc := cL_pairs) (maxL := 5) (ret := (some .boolean)) (by decide) rfl (Nat.le_of_ble_eq_true rfl) ?_
  intro κ hC hR
  have hC : Ok Λ { frames := 4, cells := 0, slots := 0, locals := 93 } cL_pairs wsL_pairs RL 5 κ := hC
  refine v_args (lv' := [(0, rf Λ 197), (1, .int (nI a)), (2, .int (nI b))]) rfl ?_
  obtain ⟨p1, p2, p3⟩ := pr_sum (fbit (fw (X.1 a))) (fbit (fw (X.1 b))) 2048
  obtain ⟨q1, q2⟩ := pr_sym (fbit (fw (X.1 a))) (fbit (fw (X.1 b)))
  obtain ⟨z0, hz0⟩ : ∃ z, cnt (fun j => givesB (nI 0) ((fbit (fw (X.1 a))) j) ((fbit (fw (X.1 b))) j)) 0 2048 = z := ⟨_, rfl⟩
  obtain ⟨z1, hz1⟩ : ∃ z, cnt (fun j => givesB (nI 1) ((fbit (fw (X.1 a))) j) ((fbit (fw (X.1 b))) j)) 0 2048 = z := ⟨_, rfl⟩
  obtain ⟨z2, hz2⟩ : ∃ z, cnt (fun j => givesB (nI 2) ((fbit (fw (X.1 a))) j) ((fbit (fw (X.1 b))) j)) 0 2048 = z := ⟨_, rfl⟩
  obtain ⟨z3, hz3⟩ : ∃ z, cnt (fun j => givesB (nI 3) ((fbit (fw (X.1 a))) j) ((fbit (fw (X.1 b))) j)) 0 2048 = z := ⟨_, rfl⟩
  obtain ⟨ya, hya⟩ : ∃ z, cnt (fbit (fw (X.1 a))) 0 2048 = z := ⟨_, rfl⟩
  obtain ⟨yb, hyb⟩ : ∃ z, cnt (fbit (fw (X.1 b))) 0 2048 = z := ⟨_, rfl⟩
  rw [hz0, hz1, hya, hyb] at p1
  rw [hz2, hz1, hya] at p2
  rw [hz3, hz1, hz0] at p3
  rw [hz0] at q1
  rw [hz1] at q2
  have sa : setC X m (nI a) 0 = nI ya := by rw [set_T ha hm, se_0]; exact (sz_T hga).trans (congrArg nI hya)
  have sb : setC X m (nI b) 0 = nI yb := by rw [set_T hb hm, se_0]; exact (sz_T hgb).trans (congrArg nI hyb)
  have s0 : sizeC X m 0 (nI a) (nI b) = nI z0 := (size_T (w := 0) ha hb hm (by decide)).trans (congrArg nI hz0)
  have s1 : sizeC X m 1 (nI a) (nI b) = nI z1 := (size_T (w := 1) ha hb hm (by decide)).trans (congrArg nI hz1)
  have s2 : sizeC X m 2 (nI a) (nI b) = nI z2 := (size_T (w := 2) ha hb hm (by decide)).trans (congrArg nI hz2)
  have s3 : sizeC X m 3 (nI a) (nI b) = nI z3 := (size_T (w := 3) ha hb hm (by decide)).trans (congrArg nI hz3)
  have s4 : sizeC X m 1 (nI b) (nI a) = nI z1 := (size_T (w := 1) hb ha hm (by decide)).trans (congrArg nI q2)
  have s5 : sizeC X m 0 (nI b) (nI a) = nI z0 := (size_T (w := 0) hb ha hm (by decide)).trans (congrArg nI q1)
  refine v_aload_n hC dL_pairs_0 0 rfl ?_
  refine v_iconst (v := 0) hC dL_pairs_1 (by decide) ?_
  refine v_iload_n hC dL_pairs_2 1 rfl ?_
  refine v_iload_n hC dL_pairs_3 2 rfl ?_
  refine v_callVr (v := .int (sizeC X m 0 (nI a) (nI b))) (C2 := CC Λ X Y) (As := [.int 0, .int (nI a), .int (nI b)]) (rest := []) hC 3 197 (c_X4_sizeOf Λ X Y (how := 0) (s := nI a) (o := nI b) hm0 hm) (nR_of (by decide)) (cc_197 Λ X Y) rfl gL_pairs_X4_sizeOf rfl rfl rfl hd_X4_sizeOf ⟨by decide, by decide⟩ rfl rfl (Nat.le_of_ble_eq_true rfl) dL_pairs_4 ?_
  refine v_topi (y := nI z0) s0 ?_
  refine v_istore_n (lv' := [(3, .int (nI z0)), (0, rf Λ 197), (1, .int (nI a)), (2, .int (nI b))]) hC dL_pairs_7 (by decide) rfl ?_
  refine v_aload_n hC dL_pairs_8 1 rfl ?_
  refine v_iconst (v := 1) hC dL_pairs_9 (by decide) ?_
  refine v_iload_n hC dL_pairs_10 2 rfl ?_
  refine v_iload_n hC dL_pairs_11 3 rfl ?_
  refine v_callVr (v := .int (sizeC X m 1 (nI a) (nI b))) (C2 := CC Λ X Y) (As := [.int 1, .int (nI a), .int (nI b)]) (rest := []) hC 3 197 (c_X4_sizeOf Λ X Y (how := 1) (s := nI a) (o := nI b) hm0 hm) (nR_of (by decide)) (cc_197 Λ X Y) rfl gL_pairs_X4_sizeOf rfl rfl rfl hd_X4_sizeOf ⟨by decide, by decide⟩ rfl rfl (Nat.le_of_ble_eq_true rfl) dL_pairs_12 ?_
  refine v_topi (y := nI z1) s1 ?_
  refine v_istore (lv' := [(4, .int (nI z1)), (3, .int (nI z0)), (0, rf Λ 197), (1, .int (nI a)), (2, .int (nI b))]) hC dL_pairs_15 (by decide) rfl ?_
  refine v_iload_n hC dL_pairs_17 1 rfl ?_
  refine v_iload hC dL_pairs_18 0 rfl ?_
  refine v_iadd (x := nI z0) (y := nI z1) hC dL_pairs_20 ?_
  refine v_topi (y := nI (z0 + z1)) (nI_add z0 z1) ?_
  refine v_aload_n hC dL_pairs_21 2 rfl ?_
  refine v_iload_n hC dL_pairs_22 3 rfl ?_
  refine v_iconst (v := 0) hC dL_pairs_23 (by decide) ?_
  refine v_callVr (v := .int (setC X m (nI a) 0)) (C2 := CC Λ X Y) (As := [.int (nI a), .int 0]) (rest := [.int (nI (z0 + z1))]) hC 2 197 (c_X4_set Λ X Y (s := nI a) (v := 0) hm0 hm) (nR_of (by decide)) (cc_197 Λ X Y) rfl gL_pairs_X4_set rfl rfl rfl hd_X4_set ⟨by decide, by decide⟩ rfl rfl (Nat.le_of_ble_eq_true rfl) dL_pairs_24 ?_
  refine v_topi (y := nI ya) sa ?_
  refine v_aload_n hC dL_pairs_27 2 rfl ?_
  refine v_iload_n hC dL_pairs_28 4 rfl ?_
  refine v_iconst (v := 0) hC dL_pairs_29 (by decide) ?_
  refine v_callVr (v := .int (setC X m (nI b) 0)) (C2 := CC Λ X Y) (As := [.int (nI b), .int 0]) (rest := [.int (nI ya), .int (nI (z0 + z1))]) hC 2 197 (c_X4_set Λ X Y (s := nI b) (v := 0) hm0 hm) (nR_of (by decide)) (cc_197 Λ X Y) rfl gL_pairs_X4_set rfl rfl rfl hd_X4_set ⟨by decide, by decide⟩ rfl rfl (Nat.le_of_ble_eq_true rfl) dL_pairs_30 ?_
  refine v_topi (y := nI yb) sb ?_
  refine v_iadd (x := nI ya) (y := nI yb) hC dL_pairs_33 ?_
  refine v_topi (y := nI (ya + yb)) (nI_add ya yb) ?_
  refine v_icmp_ne (tgt := 97) hC dL_pairs_34 (by decide) (fun h => absurd (congrArg nI p1) h) (fun _ => ?_)
  refine v_aload_n hC dL_pairs_37 2 rfl ?_
  refine v_iconst (v := 2) hC dL_pairs_38 (by decide) ?_
  refine v_iload_n hC dL_pairs_39 3 rfl ?_
  refine v_iload_n hC dL_pairs_40 4 rfl ?_
  refine v_callVr (v := .int (sizeC X m 2 (nI a) (nI b))) (C2 := CC Λ X Y) (As := [.int 2, .int (nI a), .int (nI b)]) (rest := []) hC 3 197 (c_X4_sizeOf Λ X Y (how := 2) (s := nI a) (o := nI b) hm0 hm) (nR_of (by decide)) (cc_197 Λ X Y) rfl gL_pairs_X4_sizeOf rfl rfl rfl hd_X4_sizeOf ⟨by decide, by decide⟩ rfl rfl (Nat.le_of_ble_eq_true rfl) dL_pairs_41 ?_
  refine v_topi (y := nI z2) s2 ?_
  refine v_aload_n hC dL_pairs_44 2 rfl ?_
  refine v_iload_n hC dL_pairs_45 3 rfl ?_
  refine v_iconst (v := 0) hC dL_pairs_46 (by decide) ?_
  refine v_callVr (v := .int (setC X m (nI a) 0)) (C2 := CC Λ X Y) (As := [.int (nI a), .int 0]) (rest := [.int (nI z2)]) hC 2 197 (c_X4_set Λ X Y (s := nI a) (v := 0) hm0 hm) (nR_of (by decide)) (cc_197 Λ X Y) rfl gL_pairs_X4_set rfl rfl rfl hd_X4_set ⟨by decide, by decide⟩ rfl rfl (Nat.le_of_ble_eq_true rfl) dL_pairs_47 ?_
  refine v_topi (y := nI ya) sa ?_
  refine v_iload hC dL_pairs_50 0 rfl ?_
  refine v_isub (x := nI ya) (y := nI z1) hC dL_pairs_52 ?_
  refine v_topi (y := nI z2) (by rw [← p2, pk_sub (by omega), Nat.add_sub_cancel]) ?_
  refine v_icmp_ne (tgt := 97) hC dL_pairs_53 (by decide) (fun h => absurd rfl h) (fun _ => ?_)
  refine v_aload_n hC dL_pairs_56 2 rfl ?_
  refine v_iconst (v := 3) hC dL_pairs_57 (by decide) ?_
  refine v_iload_n hC dL_pairs_58 3 rfl ?_
  refine v_iload_n hC dL_pairs_59 4 rfl ?_
  refine v_callVr (v := .int (sizeC X m 3 (nI a) (nI b))) (C2 := CC Λ X Y) (As := [.int 3, .int (nI a), .int (nI b)]) (rest := []) hC 3 197 (c_X4_sizeOf Λ X Y (how := 3) (s := nI a) (o := nI b) hm0 hm) (nR_of (by decide)) (cc_197 Λ X Y) rfl gL_pairs_X4_sizeOf rfl rfl rfl hd_X4_sizeOf ⟨by decide, by decide⟩ rfl rfl (Nat.le_of_ble_eq_true rfl) dL_pairs_60 ?_
  refine v_topi (y := nI z3) s3 ?_
  refine v_iload_n hC dL_pairs_63 1 rfl ?_
  refine v_iload hC dL_pairs_64 0 rfl ?_
  refine v_isub (x := nI z0) (y := nI z1) hC dL_pairs_66 ?_
  refine v_topi (y := nI z3) (by rw [← p3, pk_sub (by omega), Nat.add_sub_cancel]) ?_
  refine v_icmp_ne (tgt := 97) hC dL_pairs_67 (by decide) (fun h => absurd rfl h) (fun _ => ?_)
  refine v_aload_n hC dL_pairs_70 2 rfl ?_
  refine v_iconst (v := 1) hC dL_pairs_71 (by decide) ?_
  refine v_iload_n hC dL_pairs_72 4 rfl ?_
  refine v_iload_n hC dL_pairs_73 3 rfl ?_
  refine v_callVr (v := .int (sizeC X m 1 (nI b) (nI a))) (C2 := CC Λ X Y) (As := [.int 1, .int (nI b), .int (nI a)]) (rest := []) hC 3 197 (c_X4_sizeOf Λ X Y (how := 1) (s := nI b) (o := nI a) hm0 hm) (nR_of (by decide)) (cc_197 Λ X Y) rfl gL_pairs_X4_sizeOf rfl rfl rfl hd_X4_sizeOf ⟨by decide, by decide⟩ rfl rfl (Nat.le_of_ble_eq_true rfl) dL_pairs_74 ?_
  refine v_topi (y := nI z1) s4 ?_
  refine v_iload hC dL_pairs_77 0 rfl ?_
  refine v_icmp_ne (tgt := 97) hC dL_pairs_79 (by decide) (fun h => absurd rfl h) (fun _ => ?_)
  refine v_aload_n hC dL_pairs_82 2 rfl ?_
  refine v_iconst (v := 0) hC dL_pairs_83 (by decide) ?_
  refine v_iload_n hC dL_pairs_84 4 rfl ?_
  refine v_iload_n hC dL_pairs_85 3 rfl ?_
  refine v_callVr (v := .int (sizeC X m 0 (nI b) (nI a))) (C2 := CC Λ X Y) (As := [.int 0, .int (nI b), .int (nI a)]) (rest := []) hC 3 197 (c_X4_sizeOf Λ X Y (how := 0) (s := nI b) (o := nI a) hm0 hm) (nR_of (by decide)) (cc_197 Λ X Y) rfl gL_pairs_X4_sizeOf rfl rfl rfl hd_X4_sizeOf ⟨by decide, by decide⟩ rfl rfl (Nat.le_of_ble_eq_true rfl) dL_pairs_86 ?_
  refine v_topi (y := nI z0) s5 ?_
  refine v_iload_n hC dL_pairs_89 1 rfl ?_
  refine v_icmp_ne (tgt := 97) hC dL_pairs_90 (by decide) (fun h => absurd rfl h) (fun _ => ?_)
  refine v_iconst (v := 1) hC dL_pairs_93 (by decide) ?_
  refine v_goto (tgt := 98) hC dL_pairs_94 (by decide) ?_
  exact v_zret hC hR rfl rfl rfl dL_pairs_98
