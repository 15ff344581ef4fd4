/-! The law: an act -/
def frN (p : Int32) : Nat := upN p 8 * 128 + upN (p >>> (3 &&& 31)) 40
def toN (p : Int32) : Nat := frN p + upN (p >>> (9 &&& 31)) (if p >>> (20 &&& 31) &&& 1 = 0 then 6 else 300)
theorem frN_lt (p : Int32) : frN p ≤ 935 := by
  have h1 := upN_lt p (n := 8) (by decide)
  have h2 := upN_lt (p >>> (3 &&& 31)) (n := 40) (by decide)
  unfold frN
  omega
theorem toN_lt (p : Int32) : frN p ≤ toN p ∧ toN p < 2048 := by
  have h := frN_lt p
  unfold toN
  split
  · have h2 := upN_lt (p >>> (9 &&& 31)) (n := 6) (by decide)
    omega
  · have h2 := upN_lt (p >>> (9 &&& 31)) (n := 300) (by decide)
    omega
/-- what an act of the kind k makes of a set -/
def KR (k : Nat) (f f' : FR) (d : Int32) : Prop :=
  (k ≤ 1 → sz f' = sz f + 1) ∧ (k = 2 → sz f' = sz f - 1) ∧ (k = 3 ∨ k = 4 → sz f' = sz f + d) ∧ (k = 5 → sz f' = sz f - d) ∧ (k = 7 → d = (ehF 8 (faS f false) 0 0).2 ∧ fa f' = false) ∧ (k = 8 → sz f' = d) ∧ (6 ≤ k → k ≠ 8 → sz f' = sz f)
def ActOK (X : XS) (Y : YS) (m t s k : Nat) (X' : XS) (g' : YS) (d : Int32) : Prop :=
  (d < 0 ∧ Inv X' g' m t ∧ Vw X X' m) ∨ (¬ d < 0 ∧ ∃ m', m ≤ m' ∧ Inv X' g' m' (phZ t) ∧ Bk X' X m (phZ t) ∧ (∀ j, j < m → j ≠ s → g' j = Y j) ∧ KR k (X.1 s) (X'.1 s) d)
theorem ok_S {X : XS} {Y g' : YS} {m t s k : Nat} {E : Int32 × XS} {dp : Int32} {R : FR → FR → Int32 → Prop} (h : Inv X Y m t) (hs : s < m) (a : ActS X m t s E dp R) (hg1 : E.1 < 0 → ∀ j, j < m → g' j = Y j) (hg2 : ¬ E.1 < 0 → g' s = Y s + dp ∧ ∀ j, j < m → j ≠ s → g' j = Y j) (hR : ∀ f f', R f f' E.1 → KR k f f' E.1) : ActOK X Y m t s k E.2 g' E.1 := by
  have hm := h.1.2
  rcases a with ⟨e1, f6, e2⟩ | ⟨e1, f6, f, e2, e3, e4, e5⟩
  · refine Or.inl ⟨e1, ?_, fun j hj => ?_⟩
    · rw [e2]
      exact inv_g (inv_try h f6) (hg1 e1)
    · rw [e2, xFi_ne X f6 (by omega)]
      exact feq_rf _
  · obtain ⟨g1, g2⟩ := hg2 e1
    refine Or.inr ⟨e1, m, Nat.le_refl _, ?_, ?_, g2, ?_⟩
    · rw [e2]
      exact inv_set (inv_push (inv_try h f6)) hs e3 (by rw [g1, (h.2.1 s hs).2, e4]) g2
    · rw [e2]
      exact bk_set (bk_try (push_bk (X := xFi X 36 f6)) hm) (by omega)
    · rw [e2, xFi_at]
      exact hR _ _ e5
theorem kr_01 {k : Nat} (hk : k ≤ 1) (f f' : FR) (d : Int32) (h : sz f' = sz f + 1) : KR k f f' d := ⟨fun _ => h, fun z => by omega, fun z => by omega, fun z => by omega, fun z => by omega, fun z => by omega, fun z => by omega⟩
theorem kr_2 (f f' : FR) (d : Int32) (h : sz f' = sz f - 1) : KR 2 f f' d := ⟨fun z => by omega, fun _ => h, fun z => by omega, fun z => by omega, fun z => by omega, fun z => by omega, fun z => by omega⟩
theorem kr_34 {k : Nat} (hk : k = 3 ∨ k = 4) (f f' : FR) (d : Int32) (h : sz f' = sz f + d) : KR k f f' d := ⟨fun z => by omega, fun z => by omega, fun _ => h, fun z => by omega, fun z => by omega, fun z => by omega, fun z => by omega⟩
theorem kr_5 (f f' : FR) (d : Int32) (h : sz f' = sz f - d) : KR 5 f f' d := ⟨fun z => by omega, fun z => by omega, fun z => by omega, fun _ => h, fun z => by omega, fun z => by omega, fun z => by omega⟩
theorem kr_7 (f f' : FR) (d : Int32) (h : sz f' = sz f ∧ d = (ehF 8 (faS f false) 0 0).2 ∧ fa f' = false) : KR 7 f f' d := ⟨fun z => by omega, fun z => by omega, fun z => by omega, fun z => by omega, fun _ => h.2, fun z => by omega, fun _ _ => h.1⟩
theorem kr_8 (f f' : FR) (d : Int32) (h : sz f' = d) : KR 8 f f' d := ⟨fun z => by omega, fun z => by omega, fun z => by omega, fun z => by omega, fun z => by omega, fun _ => h, fun _ z => absurd rfl z⟩
theorem kr_s {k : Nat} (hk : 6 ≤ k) (h7 : k ≠ 7) (h8 : k ≠ 8) (f f' : FR) (d : Int32) (h : sz f' = sz f) : KR k f f' d := ⟨fun z => by omega, fun z => by omega, fun z => by omega, fun z => by omega, fun z => absurd z h7, fun z => absurd z h8, fun _ _ => h⟩
theorem hd_L_act : yL_act.cls ≠ "java/lang/invoke/MethodHandle" ∧ yL_act.cls ≠ "java/lang/invoke/VarHandle" ∧ (parseMethodDescriptor yL_act.desc).map (fun d => d.parameters.length) = some 4 := by decide +kernel
set_option maxHeartbeats 400000 in
set_option maxRecDepth 100000 in
theorem act_pre {Λ : Lk} {κ : Kx} {X : XS} {Y : YS} {m t : Nat} {z p : Int32} (h : Inv X Y m t) (h1 : 0 < m) (hC : Ok Λ { frames := 7, cells := 0, slots := 0, locals := 173 } cL_act wsL_act RL 12 κ) (kk : V Λ κ (CC Λ X Y) 73 [(7, .int (nI (toN p))), (6, .int (nI (frN p))), (5, .int (nI (upN z m))), (4, .int (nI m)), (0, rf Λ 197), (1, .int z), (2, .int p), (3, rf Λ 204)] [.int (nI (upN (z >>> (3 &&& 31)) 11))]) : V Λ κ (CC Λ X Y) 0 [(0, rf Λ 197), (1, .int z), (2, .int p), (3, rf Λ 204)] [] := by
  have hm0 := h.1.1
  have hm := h.1.2
  have hp0 := h.2.2.1.1
  have ht4 := h.2.2.1.2.1
  have hq := h.2.2.1.2.2.1
  have hl0 := h.2.2.2.2.1
  refine v_aload_n hC dL_act_0 0 rfl ?_
  refine v_iconst (v := 0) hC dL_act_1 (by decide) ?_
  refine v_callVr (v := .int (cntC X m t 0 0)) (C2 := CC Λ X Y) (As := [.int 0]) (rest := []) hC 1 197 (c_X4_count Λ X Y (v := 0) hm0 hm hp0 ht4 hl0 (Nat.zero_le _)) (nR_of (by decide)) (cc_197 Λ X Y) rfl gL_act_X4_count rfl rfl rfl hd_X4_count ⟨by decide, by decide⟩ rfl rfl (Nat.le_of_ble_eq_true rfl) dL_act_2 ?_
  refine v_topi (y := nI m) (ct_0 X m t 0) ?_
  refine v_istore (lv' := [(4, .int (nI m)), (0, rf Λ 197), (1, .int z), (2, .int p), (3, rf Λ 204)]) hC dL_act_5 (by decide) rfl ?_
  refine v_iload_n hC dL_act_7 2 rfl ?_
  refine v_iload hC dL_act_8 0 rfl ?_
  refine v_callSr (v := .int (nI (upN z m))) (C2 := CC Λ X Y) (As := [.int z, .int (nI m)]) (rest := []) hC 2 (c_L_up Λ X Y (x := z) (n := m) (by omega) (by omega)) gL_act_L_up rfl rfl rfl hd_L_up ⟨by decide, by decide⟩ rfl rfl (Nat.le_of_ble_eq_true rfl) dL_act_10 ?_
  refine v_istore (lv' := [(5, .int (nI (upN z m))), (4, .int (nI m)), (0, rf Λ 197), (1, .int z), (2, .int p), (3, rf Λ 204)]) hC dL_act_13 (by decide) rfl ?_
  refine v_iload_n hC dL_act_15 4 rfl ?_
  refine v_bipush (v := 8) hC dL_act_16 (by decide) ?_
  refine v_topi (y := nI 8) rfl ?_
  refine v_callSr (v := .int (nI (upN p 8))) (C2 := CC Λ X Y) (As := [.int p, .int (nI 8)]) (rest := []) hC 2 (c_L_up Λ X Y (x := p) (n := 8) (by decide) (by decide)) gL_act_L_up rfl rfl rfl hd_L_up ⟨by decide, by decide⟩ rfl rfl (Nat.le_of_ble_eq_true rfl) dL_act_18 ?_
  refine v_sipush (v := 128) hC dL_act_21 (by decide) ?_
  refine v_imul (x := nI (upN p 8)) (y := 128) hC dL_act_24 ?_
  refine v_topi (y := nI (upN p 8 * 128)) (pk_mul (upN p 8) 128) ?_
  refine v_iload_n hC dL_act_25 4 rfl ?_
  refine v_iconst (v := 3) hC dL_act_26 (by decide) ?_
  refine v_ishr (x := p) (y := 3) hC dL_act_27 ?_
  refine v_bipush (v := 40) hC dL_act_28 (by decide) ?_
  refine v_topi (y := nI 40) rfl ?_
  refine v_callSr (v := .int (nI (upN (p >>> (3 &&& 31)) 40))) (C2 := CC Λ X Y) (As := [.int (p >>> (3 &&& 31)), .int (nI 40)]) (rest := [.int (nI (upN p 8 * 128))]) hC 2 (c_L_up Λ X Y (x := p >>> (3 &&& 31)) (n := 40) (by decide) (by decide)) gL_act_L_up rfl rfl rfl hd_L_up ⟨by decide, by decide⟩ rfl rfl (Nat.le_of_ble_eq_true rfl) dL_act_30 ?_
  refine v_iadd (x := nI (upN p 8 * 128)) (y := nI (upN (p >>> (3 &&& 31)) 40)) hC dL_act_33 ?_
  refine v_topi (y := nI (frN p)) (nI_add (upN p 8 * 128) (upN (p >>> (3 &&& 31)) 40)) ?_
  refine v_istore (lv' := [(6, .int (nI (frN p))), (5, .int (nI (upN z m))), (4, .int (nI m)), (0, rf Λ 197), (1, .int z), (2, .int p), (3, rf Λ 204)]) hC dL_act_34 (by decide) rfl ?_
  have J63 : V Λ κ (CC Λ X Y) 63 [(6, .int (nI (frN p))), (5, .int (nI (upN z m))), (4, .int (nI m)), (0, rf Λ 197), (1, .int z), (2, .int p), (3, rf Λ 204)] [.int (nI (toN p))] := by
    refine v_istore (lv' := [(7, .int (nI (toN p))), (6, .int (nI (frN p))), (5, .int (nI (upN z m))), (4, .int (nI m)), (0, rf Λ 197), (1, .int z), (2, .int p), (3, rf Λ 204)]) hC dL_act_63 (by decide) rfl ?_
    refine v_iload_n hC dL_act_65 5 rfl ?_
    refine v_iconst (v := 3) hC dL_act_66 (by decide) ?_
    refine v_ishr (x := z) (y := 3) hC dL_act_67 ?_
    refine v_bipush (v := 11) hC dL_act_68 (by decide) ?_
    refine v_topi (y := nI 11) rfl ?_
    refine v_callSr (v := .int (nI (upN (z >>> (3 &&& 31)) 11))) (C2 := CC Λ X Y) (As := [.int (z >>> (3 &&& 31)), .int (nI 11)]) (rest := []) hC 2 (c_L_up Λ X Y (x := z >>> (3 &&& 31)) (n := 11) (by decide) (by decide)) gL_act_L_up rfl rfl rfl hd_L_up ⟨by decide, by decide⟩ rfl rfl (Nat.le_of_ble_eq_true rfl) dL_act_70 ?_
    exact kk
  refine v_iload hC dL_act_36 0 rfl ?_
  refine v_iload_n hC dL_act_38 5 rfl ?_
  refine v_bipush (v := 9) hC dL_act_39 (by decide) ?_
  refine v_ishr (x := p) (y := 9) hC dL_act_41 ?_
  refine v_iload_n hC dL_act_42 5 rfl ?_
  refine v_bipush (v := 20) hC dL_act_43 (by decide) ?_
  refine v_ishr (x := p) (y := 20) hC dL_act_45 ?_
  refine v_iconst (v := 1) hC dL_act_46 (by decide) ?_
  refine v_iand (x := p >>> (20 &&& 31)) (y := 1) hC dL_act_47 ?_
  refine v_if_ne (tgt := 56) hC dL_act_48 (by decide) (fun c48 => ?_) (fun c48 => ?_)
  · refine v_sipush (v := 300) hC dL_act_56 (by decide) ?_
    refine v_topi (y := nI 300) rfl ?_
    refine v_callSr (v := .int (nI (upN (p >>> (9 &&& 31)) 300))) (C2 := CC Λ X Y) (As := [.int (p >>> (9 &&& 31)), .int (nI 300)]) (rest := [.int (nI (frN p))]) hC 2 (c_L_up Λ X Y (x := p >>> (9 &&& 31)) (n := 300) (by decide) (by decide)) gL_act_L_up rfl rfl rfl hd_L_up ⟨by decide, by decide⟩ rfl rfl (Nat.le_of_ble_eq_true rfl) dL_act_59 ?_
    refine v_iadd (x := nI (frN p)) (y := nI (upN (p >>> (9 &&& 31)) 300)) hC dL_act_62 ?_
    refine v_topi (y := nI (toN p)) (by rw [nI_add]; unfold toN; rw [if_neg c48]) ?_
    exact J63
  · refine v_bipush (v := 6) hC dL_act_51 (by decide) ?_
    refine v_topi (y := nI 6) rfl ?_
    refine v_goto (tgt := 59) hC dL_act_53 (by decide) ?_
    refine v_callSr (v := .int (nI (upN (p >>> (9 &&& 31)) 6))) (C2 := CC Λ X Y) (As := [.int (p >>> (9 &&& 31)), .int (nI 6)]) (rest := [.int (nI (frN p))]) hC 2 (c_L_up Λ X Y (x := p >>> (9 &&& 31)) (n := 6) (by decide) (by decide)) gL_act_L_up rfl rfl rfl hd_L_up ⟨by decide, by decide⟩ rfl rfl (Nat.le_of_ble_eq_true rfl) dL_act_59 ?_
    refine v_iadd (x := nI (frN p)) (y := nI (upN (p >>> (9 &&& 31)) 6)) hC dL_act_62 ?_
    refine v_topi (y := nI (toN p)) (by rw [nI_add]; unfold toN; rw [if_pos c48]) ?_
    exact J63

set_option maxHeartbeats 400000 in
set_option maxRecDepth 100000 in
theorem c_act_0 (Λ : Lk) (X : XS) (Y : YS) {m t : Nat} {z p : Int32} (h : Inv X Y m t) (h1 : 0 < m) (hk : upN (z >>> (3 &&& 31)) 11 = 0) : Con Λ yL_act wsL_act { frames := 7, cells := 0, slots := 0, locals := 173 } [rf Λ 197, .int z, .int p, rf Λ 204] (CC Λ X Y) (some (.int ((addX X t m (nI (upN z m)) (nI (frN p))).1))) (CC Λ ((addX X t m (nI (upN z m)) (nI (frN p))).2) Y) := by
  refine con_start (cc := cL_act) (maxL := 12) (ret := (some .int)) (by decide) rfl (Nat.le_of_ble_eq_true rfl) ?_
  intro κ hC hR
  have hC : Ok Λ { frames := 7, cells := 0, slots := 0, locals := 173 } cL_act wsL_act RL 12 κ := hC
  refine v_args (lv' := [(0, rf Λ 197), (1, .int z), (2, .int p), (3, rf Λ 204)]) rfl ?_
  have hm0 := h.1.1
  have hm := h.1.2
  have hp0 := h.2.2.1.1
  have ht4 := h.2.2.1.2.1
  have hq := h.2.2.1.2.2.1
  have hl0 := h.2.2.2.2.1
  have hto := toN_lt p
  have hfr := frN_lt p
  have hs := upN_lt z h1
  refine act_pre h h1 hC ?_
  rw [hk]
  refine v_tabIn (x := nI 0) (tgt := 128) hC dL_act_73 (by decide) (by decide) rfl (by decide) ?_
  refine v_aload_n hC dL_act_128 4 rfl ?_
  refine v_iload hC dL_act_129 2 rfl ?_
  refine v_iload hC dL_act_131 1 rfl ?_
  refine v_callVr (v := .int ((addX X t m (nI (upN z m)) (nI (frN p))).1)) (C2 := CC Λ ((addX X t m (nI (upN z m)) (nI (frN p))).2) Y) (As := [.int (nI (upN z m)), .int (nI (frN p))]) (rest := []) hC 2 197 (c_X4_add Λ X Y (s := nI (upN z m)) (n := nI (frN p)) hm0 hm hp0 ht4 hq) (nR_of (by decide)) (cc_197 Λ X Y) rfl gL_act_X4_add rfl rfl rfl hd_X4_add ⟨by decide, by decide⟩ rfl rfl (Nat.le_of_ble_eq_true rfl) dL_act_133 ?_
  exact v_iret hC hR rfl rfl dL_act_136

set_option maxHeartbeats 400000 in
set_option maxRecDepth 100000 in
theorem c_act_1 (Λ : Lk) (X : XS) (Y : YS) {m t : Nat} {z p : Int32} (h : Inv X Y m t) (h1 : 0 < m) (hk : upN (z >>> (3 &&& 31)) 11 = 1) : Con Λ yL_act wsL_act { frames := 7, cells := 0, slots := 0, locals := 173 } [rf Λ 197, .int z, .int p, rf Λ 204] (CC Λ X Y) (some (.int ((addX X t m (nI (upN z m)) (nI (frN p))).1))) (CC Λ ((addX X t m (nI (upN z m)) (nI (frN p))).2) Y) := by
  refine con_start (cc := cL_act) (maxL := 12) (ret := (some .int)) (by decide) rfl (Nat.le_of_ble_eq_true rfl) ?_
  intro κ hC hR
  have hC : Ok Λ { frames := 7, cells := 0, slots := 0, locals := 173 } cL_act wsL_act RL 12 κ := hC
  refine v_args (lv' := [(0, rf Λ 197), (1, .int z), (2, .int p), (3, rf Λ 204)]) rfl ?_
  have hm0 := h.1.1
  have hm := h.1.2
  have hp0 := h.2.2.1.1
  have ht4 := h.2.2.1.2.1
  have hq := h.2.2.1.2.2.1
  have hl0 := h.2.2.2.2.1
  have hto := toN_lt p
  have hfr := frN_lt p
  have hs := upN_lt z h1
  refine act_pre h h1 hC ?_
  rw [hk]
  refine v_tabIn (x := nI 1) (tgt := 128) hC dL_act_73 (by decide) (by decide) rfl (by decide) ?_
  refine v_aload_n hC dL_act_128 4 rfl ?_
  refine v_iload hC dL_act_129 2 rfl ?_
  refine v_iload hC dL_act_131 1 rfl ?_
  refine v_callVr (v := .int ((addX X t m (nI (upN z m)) (nI (frN p))).1)) (C2 := CC Λ ((addX X t m (nI (upN z m)) (nI (frN p))).2) Y) (As := [.int (nI (upN z m)), .int (nI (frN p))]) (rest := []) hC 2 197 (c_X4_add Λ X Y (s := nI (upN z m)) (n := nI (frN p)) hm0 hm hp0 ht4 hq) (nR_of (by decide)) (cc_197 Λ X Y) rfl gL_act_X4_add rfl rfl rfl hd_X4_add ⟨by decide, by decide⟩ rfl rfl (Nat.le_of_ble_eq_true rfl) dL_act_133 ?_
  exact v_iret hC hR rfl rfl dL_act_136

set_option maxHeartbeats 400000 in
set_option maxRecDepth 100000 in
theorem c_act_2 (Λ : Lk) (X : XS) (Y : YS) {m t : Nat} {z p : Int32} (h : Inv X Y m t) (h1 : 0 < m) (hk : upN (z >>> (3 &&& 31)) 11 = 2) : Con Λ yL_act wsL_act { frames := 7, cells := 0, slots := 0, locals := 173 } [rf Λ 197, .int z, .int p, rf Λ 204] (CC Λ X Y) (some (.int ((remX X t m (nI (upN z m)) (nI (frN p))).1))) (CC Λ ((remX X t m (nI (upN z m)) (nI (frN p))).2) Y) := by
  refine con_start (cc := cL_act) (maxL := 12) (ret := (some .int)) (by decide) rfl (Nat.le_of_ble_eq_true rfl) ?_
  intro κ hC hR
  have hC : Ok Λ { frames := 7, cells := 0, slots := 0, locals := 173 } cL_act wsL_act RL 12 κ := hC
  refine v_args (lv' := [(0, rf Λ 197), (1, .int z), (2, .int p), (3, rf Λ 204)]) rfl ?_
  have hm0 := h.1.1
  have hm := h.1.2
  have hp0 := h.2.2.1.1
  have ht4 := h.2.2.1.2.1
  have hq := h.2.2.1.2.2.1
  have hl0 := h.2.2.2.2.1
  have hto := toN_lt p
  have hfr := frN_lt p
  have hs := upN_lt z h1
  refine act_pre h h1 hC ?_
  rw [hk]
  refine v_tabIn (x := nI 2) (tgt := 137) hC dL_act_73 (by decide) (by decide) rfl (by decide) ?_
  refine v_aload_n hC dL_act_137 4 rfl ?_
  refine v_iload hC dL_act_138 2 rfl ?_
  refine v_iload hC dL_act_140 1 rfl ?_
  refine v_callVr (v := .int ((remX X t m (nI (upN z m)) (nI (frN p))).1)) (C2 := CC Λ ((remX X t m (nI (upN z m)) (nI (frN p))).2) Y) (As := [.int (nI (upN z m)), .int (nI (frN p))]) (rest := []) hC 2 197 (c_X4_remove Λ X Y (s := nI (upN z m)) (n := nI (frN p)) hm0 hm hp0 ht4 hq) (nR_of (by decide)) (cc_197 Λ X Y) rfl gL_act_X4_remove rfl rfl rfl hd_X4_remove ⟨by decide, by decide⟩ rfl rfl (Nat.le_of_ble_eq_true rfl) dL_act_142 ?_
  exact v_iret hC hR rfl rfl dL_act_145

set_option maxHeartbeats 400000 in
set_option maxRecDepth 100000 in
theorem c_act_3 (Λ : Lk) (X : XS) (Y : YS) {m t : Nat} {z p : Int32} (h : Inv X Y m t) (h1 : 0 < m) (hk : upN (z >>> (3 &&& 31)) 11 = 3) : Con Λ yL_act wsL_act { frames := 7, cells := 0, slots := 0, locals := 173 } [rf Λ 197, .int z, .int p, rf Λ 204] (CC Λ X Y) (some (.int ((mrX X t m (nI (upN z m)) (nI (frN p)) (nI (toN p)) true).1))) (CC Λ ((mrX X t m (nI (upN z m)) (nI (frN p)) (nI (toN p)) true).2) Y) := by
  refine con_start (cc := cL_act) (maxL := 12) (ret := (some .int)) (by decide) rfl (Nat.le_of_ble_eq_true rfl) ?_
  intro κ hC hR
  have hC : Ok Λ { frames := 7, cells := 0, slots := 0, locals := 173 } cL_act wsL_act RL 12 κ := hC
  refine v_args (lv' := [(0, rf Λ 197), (1, .int z), (2, .int p), (3, rf Λ 204)]) rfl ?_
  have hm0 := h.1.1
  have hm := h.1.2
  have hp0 := h.2.2.1.1
  have ht4 := h.2.2.1.2.1
  have hq := h.2.2.1.2.2.1
  have hl0 := h.2.2.2.2.1
  have hto := toN_lt p
  have hfr := frN_lt p
  have hs := upN_lt z h1
  refine act_pre h h1 hC ?_
  rw [hk]
  refine v_tabIn (x := nI 3) (tgt := 146) hC dL_act_73 (by decide) (by decide) rfl (by decide) ?_
  refine v_aload_n hC dL_act_146 4 rfl ?_
  refine v_iload hC dL_act_147 2 rfl ?_
  refine v_iload hC dL_act_149 1 rfl ?_
  refine v_iload hC dL_act_151 0 rfl ?_
  refine v_callVr (v := .int ((mrX X t m (nI (upN z m)) (nI (frN p)) (nI (toN p)) true).1)) (C2 := CC Λ ((mrX X t m (nI (upN z m)) (nI (frN p)) (nI (toN p)) true).2) Y) (As := [.int (nI (upN z m)), .int (nI (frN p)), .int (nI (toN p))]) (rest := []) hC 3 197 (c_X4_addRange Λ X Y (s := nI (upN z m)) (u := nI (frN p)) (v := nI (toN p)) hm0 hm hp0 ht4 hq) (nR_of (by decide)) (cc_197 Λ X Y) rfl gL_act_X4_addRange rfl rfl rfl hd_X4_addRange ⟨by decide, by decide⟩ rfl rfl (Nat.le_of_ble_eq_true rfl) dL_act_153 ?_
  exact v_iret hC hR rfl rfl dL_act_156

set_option maxHeartbeats 400000 in
set_option maxRecDepth 100000 in
theorem c_act_4 (Λ : Lk) (X : XS) (Y : YS) {m t : Nat} {z p : Int32} (h : Inv X Y m t) (h1 : 0 < m) (hk : upN (z >>> (3 &&& 31)) 11 = 4) : Con Λ yL_act wsL_act { frames := 7, cells := 0, slots := 0, locals := 173 } [rf Λ 197, .int z, .int p, rf Λ 204] (CC Λ X Y) (some (.int ((mrX X t m (nI (upN z m)) (nI (frN p)) (nI (toN p)) true).1))) (CC Λ ((mrX X t m (nI (upN z m)) (nI (frN p)) (nI (toN p)) true).2) Y) := by
  refine con_start (cc := cL_act) (maxL := 12) (ret := (some .int)) (by decide) rfl (Nat.le_of_ble_eq_true rfl) ?_
  intro κ hC hR
  have hC : Ok Λ { frames := 7, cells := 0, slots := 0, locals := 173 } cL_act wsL_act RL 12 κ := hC
  refine v_args (lv' := [(0, rf Λ 197), (1, .int z), (2, .int p), (3, rf Λ 204)]) rfl ?_
  have hm0 := h.1.1
  have hm := h.1.2
  have hp0 := h.2.2.1.1
  have ht4 := h.2.2.1.2.1
  have hq := h.2.2.1.2.2.1
  have hl0 := h.2.2.2.2.1
  have hto := toN_lt p
  have hfr := frN_lt p
  have hs := upN_lt z h1
  refine act_pre h h1 hC ?_
  rw [hk]
  refine v_tabIn (x := nI 4) (tgt := 146) hC dL_act_73 (by decide) (by decide) rfl (by decide) ?_
  refine v_aload_n hC dL_act_146 4 rfl ?_
  refine v_iload hC dL_act_147 2 rfl ?_
  refine v_iload hC dL_act_149 1 rfl ?_
  refine v_iload hC dL_act_151 0 rfl ?_
  refine v_callVr (v := .int ((mrX X t m (nI (upN z m)) (nI (frN p)) (nI (toN p)) true).1)) (C2 := CC Λ ((mrX X t m (nI (upN z m)) (nI (frN p)) (nI (toN p)) true).2) Y) (As := [.int (nI (upN z m)), .int (nI (frN p)), .int (nI (toN p))]) (rest := []) hC 3 197 (c_X4_addRange Λ X Y (s := nI (upN z m)) (u := nI (frN p)) (v := nI (toN p)) hm0 hm hp0 ht4 hq) (nR_of (by decide)) (cc_197 Λ X Y) rfl gL_act_X4_addRange rfl rfl rfl hd_X4_addRange ⟨by decide, by decide⟩ rfl rfl (Nat.le_of_ble_eq_true rfl) dL_act_153 ?_
  exact v_iret hC hR rfl rfl dL_act_156

set_option maxHeartbeats 400000 in
set_option maxRecDepth 100000 in
theorem c_act_5 (Λ : Lk) (X : XS) (Y : YS) {m t : Nat} {z p : Int32} (h : Inv X Y m t) (h1 : 0 < m) (hk : upN (z >>> (3 &&& 31)) 11 = 5) : Con Λ yL_act wsL_act { frames := 7, cells := 0, slots := 0, locals := 173 } [rf Λ 197, .int z, .int p, rf Λ 204] (CC Λ X Y) (some (.int ((mrX X t m (nI (upN z m)) (nI (frN p)) (nI (toN p)) false).1))) (CC Λ ((mrX X t m (nI (upN z m)) (nI (frN p)) (nI (toN p)) false).2) Y) := by
  refine con_start (cc := cL_act) (maxL := 12) (ret := (some .int)) (by decide) rfl (Nat.le_of_ble_eq_true rfl) ?_
  intro κ hC hR
  have hC : Ok Λ { frames := 7, cells := 0, slots := 0, locals := 173 } cL_act wsL_act RL 12 κ := hC
  refine v_args (lv' := [(0, rf Λ 197), (1, .int z), (2, .int p), (3, rf Λ 204)]) rfl ?_
  have hm0 := h.1.1
  have hm := h.1.2
  have hp0 := h.2.2.1.1
  have ht4 := h.2.2.1.2.1
  have hq := h.2.2.1.2.2.1
  have hl0 := h.2.2.2.2.1
  have hto := toN_lt p
  have hfr := frN_lt p
  have hs := upN_lt z h1
  refine act_pre h h1 hC ?_
  rw [hk]
  refine v_tabIn (x := nI 5) (tgt := 157) hC dL_act_73 (by decide) (by decide) rfl (by decide) ?_
  refine v_aload_n hC dL_act_157 4 rfl ?_
  refine v_iload hC dL_act_158 2 rfl ?_
  refine v_iload hC dL_act_160 1 rfl ?_
  refine v_iload hC dL_act_162 0 rfl ?_
  refine v_callVr (v := .int ((mrX X t m (nI (upN z m)) (nI (frN p)) (nI (toN p)) false).1)) (C2 := CC Λ ((mrX X t m (nI (upN z m)) (nI (frN p)) (nI (toN p)) false).2) Y) (As := [.int (nI (upN z m)), .int (nI (frN p)), .int (nI (toN p))]) (rest := []) hC 3 197 (c_X4_removeRange Λ X Y (s := nI (upN z m)) (u := nI (frN p)) (v := nI (toN p)) hm0 hm hp0 ht4 hq) (nR_of (by decide)) (cc_197 Λ X Y) rfl gL_act_X4_removeRange rfl rfl rfl hd_X4_removeRange ⟨by decide, by decide⟩ rfl rfl (Nat.le_of_ble_eq_true rfl) dL_act_164 ?_
  exact v_iret hC hR rfl rfl dL_act_167

set_option maxHeartbeats 400000 in
set_option maxRecDepth 100000 in
theorem c_act_6 (Λ : Lk) (X : XS) (Y : YS) {m t : Nat} {z p : Int32} (h : Inv X Y m t) (h1 : 0 < m) (hk : upN (z >>> (3 &&& 31)) 11 = 6) : Con Λ yL_act wsL_act { frames := 7, cells := 0, slots := 0, locals := 173 } [rf Λ 197, .int z, .int p, rf Λ 204] (CC Λ X Y) (some (.int ((sailX X t m (nI (upN z m))).1))) (CC Λ ((sailX X t m (nI (upN z m))).2) Y) := by
  refine con_start (cc := cL_act) (maxL := 12) (ret := (some .int)) (by decide) rfl (Nat.le_of_ble_eq_true rfl) ?_
  intro κ hC hR
  have hC : Ok Λ { frames := 7, cells := 0, slots := 0, locals := 173 } cL_act wsL_act RL 12 κ := hC
  refine v_args (lv' := [(0, rf Λ 197), (1, .int z), (2, .int p), (3, rf Λ 204)]) rfl ?_
  have hm0 := h.1.1
  have hm := h.1.2
  have hp0 := h.2.2.1.1
  have ht4 := h.2.2.1.2.1
  have hq := h.2.2.1.2.2.1
  have hl0 := h.2.2.2.2.1
  have hto := toN_lt p
  have hfr := frN_lt p
  have hs := upN_lt z h1
  refine act_pre h h1 hC ?_
  rw [hk]
  refine v_tabIn (x := nI 6) (tgt := 168) hC dL_act_73 (by decide) (by decide) rfl (by decide) ?_
  refine v_aload_n hC dL_act_168 4 rfl ?_
  refine v_iload hC dL_act_169 2 rfl ?_
  refine v_callVr (v := .int ((sailX X t m (nI (upN z m))).1)) (C2 := CC Λ ((sailX X t m (nI (upN z m))).2) Y) (As := [.int (nI (upN z m))]) (rest := []) hC 1 197 (c_X4_sail Λ X Y (s := nI (upN z m)) hm0 hm hp0 ht4 hq) (nR_of (by decide)) (cc_197 Λ X Y) rfl gL_act_X4_sail rfl rfl rfl hd_X4_sail ⟨by decide, by decide⟩ rfl rfl (Nat.le_of_ble_eq_true rfl) dL_act_171 ?_
  exact v_iret hC hR rfl rfl dL_act_174

set_option maxHeartbeats 400000 in
set_option maxRecDepth 100000 in
theorem c_act_7 (Λ : Lk) (X : XS) (Y : YS) {m t : Nat} {z p : Int32} (h : Inv X Y m t) (h1 : 0 < m) (hk : upN (z >>> (3 &&& 31)) 11 = 7) : Con Λ yL_act wsL_act { frames := 7, cells := 0, slots := 0, locals := 173 } [rf Λ 197, .int z, .int p, rf Λ 204] (CC Λ X Y) (some (.int ((dockX X t m (nI (upN z m))).1))) (CC Λ ((dockX X t m (nI (upN z m))).2) Y) := by
  refine con_start (cc := cL_act) (maxL := 12) (ret := (some .int)) (by decide) rfl (Nat.le_of_ble_eq_true rfl) ?_
  intro κ hC hR
  have hC : Ok Λ { frames := 7, cells := 0, slots := 0, locals := 173 } cL_act wsL_act RL 12 κ := hC
  refine v_args (lv' := [(0, rf Λ 197), (1, .int z), (2, .int p), (3, rf Λ 204)]) rfl ?_
  have hm0 := h.1.1
  have hm := h.1.2
  have hp0 := h.2.2.1.1
  have ht4 := h.2.2.1.2.1
  have hq := h.2.2.1.2.2.1
  have hl0 := h.2.2.2.2.1
  have hto := toN_lt p
  have hfr := frN_lt p
  have hs := upN_lt z h1
  refine act_pre h h1 hC ?_
  rw [hk]
  refine v_tabIn (x := nI 7) (tgt := 175) hC dL_act_73 (by decide) (by decide) rfl (by decide) ?_
  refine v_aload_n hC dL_act_175 4 rfl ?_
  refine v_iload hC dL_act_176 2 rfl ?_
  refine v_callVr (v := .int ((dockX X t m (nI (upN z m))).1)) (C2 := CC Λ ((dockX X t m (nI (upN z m))).2) Y) (As := [.int (nI (upN z m))]) (rest := []) hC 1 197 (c_X4_dock Λ X Y (s := nI (upN z m)) hm0 hm hp0 ht4 hq) (nR_of (by decide)) (cc_197 Λ X Y) rfl gL_act_X4_dock rfl rfl rfl hd_X4_dock ⟨by decide, by decide⟩ rfl rfl (Nat.le_of_ble_eq_true rfl) dL_act_178 ?_
  exact v_iret hC hR rfl rfl dL_act_181

set_option maxHeartbeats 400000 in
set_option maxRecDepth 100000 in
theorem c_act_8 (Λ : Lk) (X : XS) (Y : YS) {m t : Nat} {z p : Int32} (h : Inv X Y m t) (h1 : 0 < m) (hk : upN (z >>> (3 &&& 31)) 11 = 8) : Con Λ yL_act wsL_act { frames := 7, cells := 0, slots := 0, locals := 173 } [rf Λ 197, .int z, .int p, rf Λ 204] (CC Λ X Y) (some (.int ((cbX X t m (nI (upN p 4)) (nI (upN z m)) (nI (upN (p >>> (2 &&& 31)) m)) (nI (upN (p >>> (5 &&& 31)) m))).1))) (CC Λ ((cbX X t m (nI (upN p 4)) (nI (upN z m)) (nI (upN (p >>> (2 &&& 31)) m)) (nI (upN (p >>> (5 &&& 31)) m))).2) Y) := by
  refine con_start (cc := cL_act) (maxL := 12) (ret := (some .int)) (by decide) rfl (Nat.le_of_ble_eq_true rfl) ?_
  intro κ hC hR
  have hC : Ok Λ { frames := 7, cells := 0, slots := 0, locals := 173 } cL_act wsL_act RL 12 κ := hC
  refine v_args (lv' := [(0, rf Λ 197), (1, .int z), (2, .int p), (3, rf Λ 204)]) rfl ?_
  have hm0 := h.1.1
  have hm := h.1.2
  have hp0 := h.2.2.1.1
  have ht4 := h.2.2.1.2.1
  have hq := h.2.2.1.2.2.1
  have hl0 := h.2.2.2.2.1
  have hto := toN_lt p
  have hfr := frN_lt p
  have hs := upN_lt z h1
  refine act_pre h h1 hC ?_
  rw [hk]
  refine v_tabIn (x := nI 8) (tgt := 182) hC dL_act_73 (by decide) (by decide) rfl (by decide) ?_
  refine v_aload_n hC dL_act_182 4 rfl ?_
  refine v_iload_n hC dL_act_183 6 rfl ?_
  refine v_iconst (v := 4) hC dL_act_184 (by decide) ?_
  refine v_topi (y := nI 4) rfl ?_
  refine v_callSr (v := .int (nI (upN p 4))) (C2 := CC Λ X Y) (As := [.int p, .int (nI 4)]) (rest := [rf Λ 197]) hC 2 (c_L_up Λ X Y (x := p) (n := 4) (by decide) (by decide)) gL_act_L_up rfl rfl rfl hd_L_up ⟨by decide, by decide⟩ rfl rfl (Nat.le_of_ble_eq_true rfl) dL_act_185 ?_
  refine v_iload hC dL_act_188 2 rfl ?_
  refine v_iload_n hC dL_act_190 6 rfl ?_
  refine v_iconst (v := 2) hC dL_act_191 (by decide) ?_
  refine v_ishr (x := p) (y := 2) hC dL_act_192 ?_
  refine v_iload hC dL_act_193 3 rfl ?_
  refine v_callSr (v := .int (nI (upN (p >>> (2 &&& 31)) m))) (C2 := CC Λ X Y) (As := [.int (p >>> (2 &&& 31)), .int (nI m)]) (rest := [.int (nI (upN z m)), .int (nI (upN p 4)), rf Λ 197]) hC 2 (c_L_up Λ X Y (x := p >>> (2 &&& 31)) (n := m) (by omega) (by omega)) gL_act_L_up rfl rfl rfl hd_L_up ⟨by decide, by decide⟩ rfl rfl (Nat.le_of_ble_eq_true rfl) dL_act_195 ?_
  refine v_iload_n hC dL_act_198 6 rfl ?_
  refine v_iconst (v := 5) hC dL_act_199 (by decide) ?_
  refine v_ishr (x := p) (y := 5) hC dL_act_200 ?_
  refine v_iload hC dL_act_201 3 rfl ?_
  refine v_callSr (v := .int (nI (upN (p >>> (5 &&& 31)) m))) (C2 := CC Λ X Y) (As := [.int (p >>> (5 &&& 31)), .int (nI m)]) (rest := [.int (nI (upN (p >>> (2 &&& 31)) m)), .int (nI (upN z m)), .int (nI (upN p 4)), rf Λ 197]) hC 2 (c_L_up Λ X Y (x := p >>> (5 &&& 31)) (n := m) (by omega) (by omega)) gL_act_L_up rfl rfl rfl hd_L_up ⟨by decide, by decide⟩ rfl rfl (Nat.le_of_ble_eq_true rfl) dL_act_203 ?_
  refine v_callVr (v := .int ((cbX X t m (nI (upN p 4)) (nI (upN z m)) (nI (upN (p >>> (2 &&& 31)) m)) (nI (upN (p >>> (5 &&& 31)) m))).1)) (C2 := CC Λ ((cbX X t m (nI (upN p 4)) (nI (upN z m)) (nI (upN (p >>> (2 &&& 31)) m)) (nI (upN (p >>> (5 &&& 31)) m))).2) Y) (As := [.int (nI (upN p 4)), .int (nI (upN z m)), .int (nI (upN (p >>> (2 &&& 31)) m)), .int (nI (upN (p >>> (5 &&& 31)) m))]) (rest := []) hC 4 197 (c_X4_combine Λ X Y (how := nI (upN p 4)) (s := nI (upN z m)) (u := nI (upN (p >>> (2 &&& 31)) m)) (v := nI (upN (p >>> (5 &&& 31)) m)) hm0 hm hp0 ht4 hq) (nR_of (by decide)) (cc_197 Λ X Y) rfl gL_act_X4_combine rfl rfl rfl hd_X4_combine ⟨by decide, by decide⟩ rfl rfl (Nat.le_of_ble_eq_true rfl) dL_act_206 ?_
  exact v_iret hC hR rfl rfl dL_act_209

set_option maxHeartbeats 400000 in
set_option maxRecDepth 100000 in
theorem c_act_9 (Λ : Lk) (X : XS) (Y : YS) {m t : Nat} {z p : Int32} (h : Inv X Y m t) (h1 : 0 < m) (hk : upN (z >>> (3 &&& 31)) 11 = 9) : Con Λ yL_act wsL_act { frames := 7, cells := 0, slots := 0, locals := 173 } [rf Λ 197, .int z, .int p, rf Λ 204] (CC Λ X Y) (some (.int ((payX X t m (nI (upN z m)) (nI (1 + upN p 60))).1))) (CC Λ ((payX X t m (nI (upN z m)) (nI (1 + upN p 60))).2) (upd Y (upN z m) (Y (upN z m) + (if (payX X t m (nI (upN z m)) (nI (1 + upN p 60))).1 < 0 then 0 else nI (1 + upN p 60))))) := by
  refine con_start (cc := cL_act) (maxL := 12) (ret := (some .int)) (by decide) rfl (Nat.le_of_ble_eq_true rfl) ?_
  intro κ hC hR
  have hC : Ok Λ { frames := 7, cells := 0, slots := 0, locals := 173 } cL_act wsL_act RL 12 κ := hC
  refine v_args (lv' := [(0, rf Λ 197), (1, .int z), (2, .int p), (3, rf Λ 204)]) rfl ?_
  have hm0 := h.1.1
  have hm := h.1.2
  have hp0 := h.2.2.1.1
  have ht4 := h.2.2.1.2.1
  have hq := h.2.2.1.2.2.1
  have hl0 := h.2.2.2.2.1
  have hto := toN_lt p
  have hfr := frN_lt p
  have hs := upN_lt z h1
  refine act_pre h h1 hC ?_
  rw [hk]
  refine v_tabIn (x := nI 9) (tgt := 210) hC dL_act_73 (by decide) (by decide) rfl (by decide) ?_
  refine v_iconst (v := 1) hC dL_act_210 (by decide) ?_
  refine v_iload_n hC dL_act_211 6 rfl ?_
  refine v_bipush (v := 60) hC dL_act_212 (by decide) ?_
  refine v_topi (y := nI 60) rfl ?_
  refine v_callSr (v := .int (nI (upN p 60))) (C2 := CC Λ X Y) (As := [.int p, .int (nI 60)]) (rest := [.int 1]) hC 2 (c_L_up Λ X Y (x := p) (n := 60) (by decide) (by decide)) gL_act_L_up rfl rfl rfl hd_L_up ⟨by decide, by decide⟩ rfl rfl (Nat.le_of_ble_eq_true rfl) dL_act_214 ?_
  refine v_iadd (x := 1) (y := nI (upN p 60)) hC dL_act_217 ?_
  refine v_topi (y := nI (1 + upN p 60)) (nI_add 1 (upN p 60)) ?_
  refine v_istore (lv' := [(8, .int (nI (1 + upN p 60))), (7, .int (nI (toN p))), (6, .int (nI (frN p))), (5, .int (nI (upN z m))), (4, .int (nI m)), (0, rf Λ 197), (1, .int z), (2, .int p), (3, rf Λ 204)]) hC dL_act_218 (by decide) rfl ?_
  refine v_aload_n hC dL_act_220 5 rfl ?_
  refine v_iload hC dL_act_221 3 rfl ?_
  refine v_iload hC dL_act_223 0 rfl ?_
  refine v_callVr (v := .int ((payX X t m (nI (upN z m)) (nI (1 + upN p 60))).1)) (C2 := CC Λ ((payX X t m (nI (upN z m)) (nI (1 + upN p 60))).2) Y) (As := [.int (nI (upN z m)), .int (nI (1 + upN p 60))]) (rest := []) hC 2 197 (c_X4_pay Λ X Y (s := nI (upN z m)) (c := nI (1 + upN p 60)) hm0 hm hp0 ht4 hq) (nR_of (by decide)) (cc_197 Λ X Y) rfl gL_act_X4_pay rfl rfl rfl hd_X4_pay ⟨by decide, by decide⟩ rfl rfl (Nat.le_of_ble_eq_true rfl) dL_act_225 ?_
  refine v_istore (lv' := [(9, .int ((payX X t m (nI (upN z m)) (nI (1 + upN p 60))).1)), (8, .int (nI (1 + upN p 60))), (7, .int (nI (toN p))), (6, .int (nI (frN p))), (5, .int (nI (upN z m))), (4, .int (nI m)), (0, rf Λ 197), (1, .int z), (2, .int p), (3, rf Λ 204)]) hC dL_act_228 (by decide) rfl ?_
  refine v_aload_n hC dL_act_230 9 rfl ?_
  refine v_iload hC dL_act_231 4 rfl ?_
  refine v_dup2 hC dL_act_233 rfl rfl ?_
  refine v_iald hC 204 (nR_of (by decide)) (cc_204 Λ ((payX X t m (nI (upN z m)) (nI (1 + upN p 60))).2) Y) (upN z m) rfl (by omega) (by decide) dL_act_234 ?_
  refine v_iload hC dL_act_235 0 rfl ?_
  refine v_if_lt (tgt := 245) hC dL_act_237 (by decide) (fun c237 => ?_) (fun c237 => ?_)
  · refine v_iconst (v := 0) hC dL_act_245 (by decide) ?_
    refine v_topi (y := if (payX X t m (nI (upN z m)) (nI (1 + upN p 60))).1 < 0 then 0 else nI (1 + upN p 60)) (if_pos c237).symm ?_
    refine v_iadd (x := Y (upN z m)) (y := if (payX X t m (nI (upN z m)) (nI (1 + upN p 60))).1 < 0 then 0 else nI (1 + upN p 60)) hC dL_act_246 ?_
    refine v_iast hC 204 (nR_of (by decide)) (cc_204 Λ ((payX X t m (nI (upN z m)) (nI (1 + upN p 60))).2) Y) (upN z m) rfl (by omega) (by decide) dL_act_247 ?_
    refine v_mem (C' := CC Λ ((payX X t m (nI (upN z m)) (nI (1 + upN p 60))).2) (upd Y (upN z m) ((Y (upN z m)) + (if (payX X t m (nI (upN z m)) (nI (1 + upN p 60))).1 < 0 then 0 else nI (1 + upN p 60))))) (cs_y Λ _ _ _) ?_
    refine v_iload hC dL_act_248 0 rfl ?_
    exact v_iret hC hR rfl rfl dL_act_250
  · refine v_iload hC dL_act_240 1 rfl ?_
    refine v_goto (tgt := 246) hC dL_act_242 (by decide) ?_
    refine v_topi (y := if (payX X t m (nI (upN z m)) (nI (1 + upN p 60))).1 < 0 then 0 else nI (1 + upN p 60)) (if_neg c237).symm ?_
    refine v_iadd (x := Y (upN z m)) (y := if (payX X t m (nI (upN z m)) (nI (1 + upN p 60))).1 < 0 then 0 else nI (1 + upN p 60)) hC dL_act_246 ?_
    refine v_iast hC 204 (nR_of (by decide)) (cc_204 Λ ((payX X t m (nI (upN z m)) (nI (1 + upN p 60))).2) Y) (upN z m) rfl (by omega) (by decide) dL_act_247 ?_
    refine v_mem (C' := CC Λ ((payX X t m (nI (upN z m)) (nI (1 + upN p 60))).2) (upd Y (upN z m) ((Y (upN z m)) + (if (payX X t m (nI (upN z m)) (nI (1 + upN p 60))).1 < 0 then 0 else nI (1 + upN p 60))))) (cs_y Λ _ _ _) ?_
    refine v_iload hC dL_act_248 0 rfl ?_
    exact v_iret hC hR rfl rfl dL_act_250

set_option maxHeartbeats 400000 in
set_option maxRecDepth 100000 in
theorem c_act_10a (Λ : Lk) (X : XS) (Y : YS) {m t : Nat} {z p : Int32} (h : Inv X Y m t) (h1 : 0 < m) (hk : upN (z >>> (3 &&& 31)) 11 = 10) (h6 : m < 6) : Con Λ yL_act wsL_act { frames := 7, cells := 0, slots := 0, locals := 173 } [rf Λ 197, .int z, .int p, rf Λ 204] (CC Λ X Y) (some (.int (nI m))) (CC Λ (opH (pushX X t m) 0 m (nI (upN p 90))) (upd Y m (nI (upN p 90)))) := by
  refine con_start (cc := cL_act) (maxL := 12) (ret := (some .int)) (by decide) rfl (Nat.le_of_ble_eq_true rfl) ?_
  intro κ hC hR
  have hC : Ok Λ { frames := 7, cells := 0, slots := 0, locals := 173 } cL_act wsL_act RL 12 κ := hC
  refine v_args (lv' := [(0, rf Λ 197), (1, .int z), (2, .int p), (3, rf Λ 204)]) rfl ?_
  have hm0 := h.1.1
  have hm := h.1.2
  have hp0 := h.2.2.1.1
  have ht4 := h.2.2.1.2.1
  have hq := h.2.2.1.2.2.1
  have hl0 := h.2.2.2.2.1
  have hto := toN_lt p
  have hfr := frN_lt p
  have hs := upN_lt z h1
  refine act_pre h h1 hC ?_
  rw [hk]
  refine v_tabOut (x := nI 10) (tgt := 251) hC dL_act_73 (by decide) (by decide) ?_
  refine v_iload_n hC dL_act_251 6 rfl ?_
  refine v_bipush (v := 90) hC dL_act_252 (by decide) ?_
  refine v_topi (y := nI 90) rfl ?_
  refine v_callSr (v := .int (nI (upN p 90))) (C2 := CC Λ X Y) (As := [.int p, .int (nI 90)]) (rest := []) hC 2 (c_L_up Λ X Y (x := p) (n := 90) (by decide) (by decide)) gL_act_L_up rfl rfl rfl hd_L_up ⟨by decide, by decide⟩ rfl rfl (Nat.le_of_ble_eq_true rfl) dL_act_254 ?_
  refine v_istore (lv' := [(10, .int (nI (upN p 90))), (7, .int (nI (toN p))), (6, .int (nI (frN p))), (5, .int (nI (upN z m))), (4, .int (nI m)), (0, rf Λ 197), (1, .int z), (2, .int p), (3, rf Λ 204)]) hC dL_act_257 (by decide) rfl ?_
  refine v_aload_n hC dL_act_259 5 rfl ?_
  refine v_iload hC dL_act_260 0 rfl ?_
  refine v_callVr (v := .int (nI m)) (C2 := CC Λ (opH (pushX X t m) 0 m (nI (upN p 90))) Y) (As := [.int (nI (upN p 90))]) (rest := []) hC 1 197 (con_E (c_X4_newSet Λ X Y (c := nI (upN p 90)) hm0 hm hp0 ht4 hq) (new_T (upN_lt p (by decide)) h6)) (nR_of (by decide)) (cc_197 Λ X Y) rfl gL_act_X4_newSet rfl rfl rfl hd_X4_newSet ⟨by decide, by decide⟩ rfl rfl (Nat.le_of_ble_eq_true rfl) dL_act_262 ?_
  refine v_istore (lv' := [(11, .int (nI m)), (10, .int (nI (upN p 90))), (7, .int (nI (toN p))), (6, .int (nI (frN p))), (5, .int (nI (upN z m))), (4, .int (nI m)), (0, rf Λ 197), (1, .int z), (2, .int p), (3, rf Λ 204)]) hC dL_act_265 (by decide) rfl ?_
  refine v_aload_n hC dL_act_267 9 rfl ?_
  refine v_iload hC dL_act_268 0 rfl ?_
  refine v_if_ge (tgt := 278) hC dL_act_270 (by decide) (fun _ => ?_) (fun zz => absurd (nI_pos' (n := m) (by omega)) zz)
  refine v_iload hC dL_act_278 0 rfl ?_
  refine v_iload hC dL_act_280 0 rfl ?_
  refine v_if_ge (tgt := 289) hC dL_act_282 (by decide) (fun _ => ?_) (fun zz => absurd (nI_pos' (n := m) (by omega)) zz)
  refine v_iload hC dL_act_289 1 rfl ?_
  refine v_iast hC 204 (nR_of (by decide)) (cc_204 Λ (opH (pushX X t m) 0 m (nI (upN p 90))) Y) m rfl (by omega) (by decide) dL_act_291 ?_
  refine v_mem (C' := CC Λ (opH (pushX X t m) 0 m (nI (upN p 90))) (upd Y m (nI (upN p 90)))) (cs_y Λ _ _ _) ?_
  refine v_iload hC dL_act_292 0 rfl ?_
  exact v_iret hC hR rfl rfl dL_act_294

set_option maxHeartbeats 400000 in
set_option maxRecDepth 100000 in
theorem c_act_10b (Λ : Lk) (X : XS) (Y : YS) {m t : Nat} {z p : Int32} (h : Inv X Y m t) (h1 : 0 < m) (hk : upN (z >>> (3 &&& 31)) 11 = 10) (h6 : ¬ m < 6) : Con Λ yL_act wsL_act { frames := 7, cells := 0, slots := 0, locals := 173 } [rf Λ 197, .int z, .int p, rf Λ 204] (CC Λ X Y) (some (.int (-3))) (CC Λ X (upd Y 7 0)) := by
  refine con_start (cc := cL_act) (maxL := 12) (ret := (some .int)) (by decide) rfl (Nat.le_of_ble_eq_true rfl) ?_
  intro κ hC hR
  have hC : Ok Λ { frames := 7, cells := 0, slots := 0, locals := 173 } cL_act wsL_act RL 12 κ := hC
  refine v_args (lv' := [(0, rf Λ 197), (1, .int z), (2, .int p), (3, rf Λ 204)]) rfl ?_
  have hm0 := h.1.1
  have hm := h.1.2
  have hp0 := h.2.2.1.1
  have ht4 := h.2.2.1.2.1
  have hq := h.2.2.1.2.2.1
  have hl0 := h.2.2.2.2.1
  have hto := toN_lt p
  have hfr := frN_lt p
  have hs := upN_lt z h1
  refine act_pre h h1 hC ?_
  rw [hk]
  refine v_tabOut (x := nI 10) (tgt := 251) hC dL_act_73 (by decide) (by decide) ?_
  refine v_iload_n hC dL_act_251 6 rfl ?_
  refine v_bipush (v := 90) hC dL_act_252 (by decide) ?_
  refine v_topi (y := nI 90) rfl ?_
  refine v_callSr (v := .int (nI (upN p 90))) (C2 := CC Λ X Y) (As := [.int p, .int (nI 90)]) (rest := []) hC 2 (c_L_up Λ X Y (x := p) (n := 90) (by decide) (by decide)) gL_act_L_up rfl rfl rfl hd_L_up ⟨by decide, by decide⟩ rfl rfl (Nat.le_of_ble_eq_true rfl) dL_act_254 ?_
  refine v_istore (lv' := [(10, .int (nI (upN p 90))), (7, .int (nI (toN p))), (6, .int (nI (frN p))), (5, .int (nI (upN z m))), (4, .int (nI m)), (0, rf Λ 197), (1, .int z), (2, .int p), (3, rf Λ 204)]) hC dL_act_257 (by decide) rfl ?_
  refine v_aload_n hC dL_act_259 5 rfl ?_
  refine v_iload hC dL_act_260 0 rfl ?_
  refine v_callVr (v := .int (-3)) (C2 := CC Λ X Y) (As := [.int (nI (upN p 90))]) (rest := []) hC 1 197 (con_E (c_X4_newSet Λ X Y (c := nI (upN p 90)) hm0 hm hp0 ht4 hq) (new_F (upN_lt p (by decide)) h6)) (nR_of (by decide)) (cc_197 Λ X Y) rfl gL_act_X4_newSet rfl rfl rfl hd_X4_newSet ⟨by decide, by decide⟩ rfl rfl (Nat.le_of_ble_eq_true rfl) dL_act_262 ?_
  refine v_istore (lv' := [(11, .int (-3)), (10, .int (nI (upN p 90))), (7, .int (nI (toN p))), (6, .int (nI (frN p))), (5, .int (nI (upN z m))), (4, .int (nI m)), (0, rf Λ 197), (1, .int z), (2, .int p), (3, rf Λ 204)]) hC dL_act_265 (by decide) rfl ?_
  refine v_aload_n hC dL_act_267 9 rfl ?_
  refine v_iload hC dL_act_268 0 rfl ?_
  refine v_if_ge (tgt := 278) hC dL_act_270 (by decide) (fun zz => absurd zz (show ¬ (0 : Int32) ≤ -3 by decide)) (fun _ => ?_)
  refine v_bipush (v := 7) hC dL_act_273 (by decide) ?_
  refine v_goto (tgt := 280) hC dL_act_275 (by decide) ?_
  refine v_iload hC dL_act_280 0 rfl ?_
  refine v_if_ge (tgt := 289) hC dL_act_282 (by decide) (fun zz => absurd zz (show ¬ (0 : Int32) ≤ -3 by decide)) (fun _ => ?_)
  refine v_iconst (v := 0) hC dL_act_285 (by decide) ?_
  refine v_goto (tgt := 291) hC dL_act_286 (by decide) ?_
  refine v_iast hC 204 (nR_of (by decide)) (cc_204 Λ X Y) 7 rfl (by omega) (by decide) dL_act_291 ?_
  refine v_mem (C' := CC Λ X (upd Y 7 0)) (cs_y Λ _ _ _) ?_
  refine v_iload hC dL_act_292 0 rfl ?_
  exact v_iret hC hR rfl rfl dL_act_294

set_option maxHeartbeats 400000 in
set_option maxRecDepth 100000 in
theorem c_L_act (Λ : Lk) (X : XS) (Y : YS) {m t : Nat} {z p : Int32} (h : Inv X Y m t) (h1 : 0 < m) : ∃ (d : Int32) (X' : XS) (g' : YS), Con Λ yL_act wsL_act { frames := 7, cells := 0, slots := 0, locals := 173 } [rf Λ 197, .int z, .int p, rf Λ 204] (CC Λ X Y) (some (.int d)) (CC Λ X' g') ∧ ActOK X Y m t (upN z m) (upN (z >>> (3 &&& 31)) 11) X' g' d := by
  have hk := upN_lt (z >>> (3 &&& 31)) (n := 11) (by decide)
  have hs := upN_lt z h1
  have hto := toN_lt p
  have hfr := frN_lt p
  have hm := h.1.2
  have g0 : ∀ j, j < m → Y j = Y j := fun _ _ => rfl
  have g1 : ∀ s, Y s = Y s + 0 ∧ ∀ j, j < m → j ≠ s → Y j = Y j := fun s => ⟨(Int32.add_zero _).symm, fun _ _ _ => rfl⟩
  rcases (show upN (z >>> (3 &&& 31)) 11 = 0 ∨ upN (z >>> (3 &&& 31)) 11 = 1 ∨ upN (z >>> (3 &&& 31)) 11 = 2 ∨ upN (z >>> (3 &&& 31)) 11 = 3 ∨ upN (z >>> (3 &&& 31)) 11 = 4 ∨ upN (z >>> (3 &&& 31)) 11 = 5 ∨ upN (z >>> (3 &&& 31)) 11 = 6 ∨ upN (z >>> (3 &&& 31)) 11 = 7 ∨ upN (z >>> (3 &&& 31)) 11 = 8 ∨ upN (z >>> (3 &&& 31)) 11 = 9 ∨ upN (z >>> (3 &&& 31)) 11 = 10 by omega) with e | e | e | e | e | e | e | e | e | e | e
  · exact ⟨_, _, Y, c_act_0 Λ X Y h h1 e, by rw [e]; exact ok_S h hs (add_S h hs (by omega)) (fun _ => g0) (fun _ => g1 _) (fun f f' r => (kr_01 (by omega)) f f' _ r)⟩
  · exact ⟨_, _, Y, c_act_1 Λ X Y h h1 e, by rw [e]; exact ok_S h hs (add_S h hs (by omega)) (fun _ => g0) (fun _ => g1 _) (fun f f' r => (kr_01 (by omega)) f f' _ r)⟩
  · exact ⟨_, _, Y, c_act_2 Λ X Y h h1 e, by rw [e]; exact ok_S h hs (rem_S h hs (by omega)) (fun _ => g0) (fun _ => g1 _) (fun f f' r => kr_2 f f' _ r)⟩
  · exact ⟨_, _, Y, c_act_3 Λ X Y h h1 e, by rw [e]; exact ok_S h hs (rng_S true h hs hto.1 hto.2) (fun _ => g0) (fun _ => g1 _) (fun f f' r => kr_34 (by omega) f f' _ r)⟩
  · exact ⟨_, _, Y, c_act_4 Λ X Y h h1 e, by rw [e]; exact ok_S h hs (rng_S true h hs hto.1 hto.2) (fun _ => g0) (fun _ => g1 _) (fun f f' r => kr_34 (by omega) f f' _ r)⟩
  · exact ⟨_, _, Y, c_act_5 Λ X Y h h1 e, by rw [e]; exact ok_S h hs (rng_S false h hs hto.1 hto.2) (fun _ => g0) (fun _ => g1 _) (fun f f' r => kr_5 f f' _ r)⟩
  · exact ⟨_, _, Y, c_act_6 Λ X Y h h1 e, by rw [e]; exact ok_S h hs (sail_S h hs) (fun _ => g0) (fun _ => g1 _) (fun f f' r => (kr_s (by omega) (by omega) (by omega)) f f' _ r)⟩
  · exact ⟨_, _, Y, c_act_7 Λ X Y h h1 e, by rw [e]; exact ok_S h hs (dock_S h hs) (fun _ => g0) (fun _ => g1 _) (fun f f' r => kr_7 f f' _ ⟨r.1, r.2.1, r.2.2.1⟩)⟩
  · exact ⟨_, _, Y, c_act_8 Λ X Y h h1 e, by rw [e]; exact ok_S h hs (comb_S h hs (upN_lt _ h1) (upN_lt _ h1) (upN_lt p (by decide))) (fun _ => g0) (fun _ => g1 _) (fun f f' r => kr_8 f f' _ r)⟩
  · refine ⟨_, _, _, c_act_9 Λ X Y h h1 e, ?_⟩
    rw [e]
    have hc := upN_lt p (n := 60) (by decide)
    refine ok_S h hs (pay_S h hs (c := (1 + upN p 60)) (by omega) (by omega)) (fun y j hj => ?_) (fun y => ⟨?_, fun j hj hne => pk_un hne⟩) (fun f f' r => kr_s (by omega) (by omega) (by omega) f f' _ r)
    · rw [if_pos y, Int32.add_zero]
      by_cases ej : j = (upN z m)
      · rw [ej, pk_us]
      · exact pk_un ej
    · rw [if_neg y, pk_us]
  · by_cases h6 : m < 6
    · refine ⟨_, _, _, c_act_10a Λ X Y h h1 e h6, ?_⟩
      rw [e]
      obtain ⟨r1, r2, r3⟩ := inv_open (g' := upd Y m (nI (upN p 90))) h (upN_lt p (by decide)) h6 pk_us (fun j hj => pk_un (by omega))
      exact Or.inr ⟨nI_pos (by omega), m + 1, by omega, r1, r2, fun j hj _ => pk_un (by omega), by rw [r3 _ hs]; exact kr_s (by omega) (by omega) (by omega) _ _ _ rfl⟩
    · refine ⟨_, _, _, c_act_10b Λ X Y h h1 e h6, ?_⟩
      exact Or.inl ⟨by decide, inv_g h (fun j hj => pk_un (by omega)), fun j hj => feq_rf _⟩
