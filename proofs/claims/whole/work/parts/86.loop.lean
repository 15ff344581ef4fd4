/-! The law's loop -/
theorem and31 (x : Int32) : ∃ v, v < 32 ∧ x &&& 31 = nI v := by
  refine ⟨x.toBitVec.toNat % 32, Nat.mod_lt _ (by decide), ?_⟩
  apply Int32.toBitVec_inj.mp
  apply BitVec.eq_of_toNat_eq
  rw [Int32.toBitVec_and, BitVec.toNat_and]
  show x.toBitVec.toNat &&& 31 = (BitVec.ofNat 32 (x.toBitVec.toNat % 32)).toNat
  rw [show (31 : Nat) = 2 ^ 5 - 1 from rfl, Nat.and_two_pow_sub_one_eq_mod, BitVec.toNat_ofNat]
  omega
theorem len5 {L i : Nat} (hL : L ≤ 2560) (hi : i ≤ L) (h : ¬ nI L - 5 < nI i) : i + 5 ≤ L := by
  rcases Nat.lt_or_ge L 5 with g | g
  · have k : ∀ L, L < 5 → nI L - 5 < 0 := by decide
    exact absurd (Int32.lt_of_lt_of_le (k L g) (nI_pos' (by omega))) h
  · rw [show nI L - 5 = nI (L - 5) from pk_sub (b := 5) g] at h
    have h2 : ¬ L - 5 < i := fun z => h ((nI_ltI (a := L - 5) (b := i) (by omega) (by omega)).mpr z)
    omega
section LLOOP
variable {Λ : Lk} {κ : Kx} {b L : Nat} {xs : Nat → Int32}
theorem law_go (hC : Ok Λ room_1 cL_law wsL_law RL 4 κ) (hS : Scr Λ b L xs κ) (hL : L ≤ 2560) (hend : ∀ (C : Mem) (lv : Lvs), V Λ κ C 973 lv [.int 1]) : ∀ (n i : Nat) (X : XS) (Y : YS), i ≤ L → L - i < n → (∃ m t sn TL, Rel X Y m t sn TL) → V Λ κ (CC Λ X Y) 18 (lwl Λ b i) []
  | 0, i, X, Y, _, hn, _ => absurd hn (Nat.not_lt_zero _)
  | n + 1, i, X, Y, hi, hn, hR => by
    refine v_iload_n hC dL_law_18 0 rfl ?_
    refine v_aload_n hC dL_law_19 1 rfl ?_
    refine v_slen hC hS dL_law_20 ?_
    refine v_iconst (v := 5) hC dL_law_21 (by decide) ?_
    refine v_isub (x := nI L) (y := 5) hC dL_law_22 ?_
    refine v_icmp_gt (tgt := 972) hC dL_law_23 (by decide) (fun c => ?_) (fun c => ?_)
    · exact v_iconst (v := 1) hC dL_law_972 (by decide) (hend _ _)
    · have hi5 : i + 5 ≤ L := len5 hL hi c
      have kk : ∀ (X2 : XS) (Y2 : YS), (∃ m t sn TL, Rel X2 Y2 m t sn TL) → V Λ κ (CC Λ X2 Y2) 966 (lwl Λ b i) [] := by
        intro X2 Y2 hR2
        refine v_iinc (j := 0) (v := nI (i + 5)) (lv' := lwl Λ b (i + 5)) hC dL_law_966 rfl (nI_add i 5) (by decide) rfl ?_
        refine v_goto (tgt := 18) hC dL_law_969 (by decide) ?_
        exact law_go hC hS hL hend n (i + 5) X2 Y2 (by omega) (by omega) hR2
      refine v_aload_n hC dL_law_26 1 rfl ?_
      refine v_iload_n hC dL_law_27 0 rfl ?_
      refine v_sld hC hS i rfl (by omega) (by omega) dL_law_28 ?_
      refine v_bipush (v := 31) hC dL_law_29 (by decide) ?_
      refine v_iand (x := xs i) (y := 31) hC dL_law_31 ?_
      obtain ⟨v, hv, e⟩ := and31 (xs i)
      refine v_topi e ?_
      have hR0 := hR
      obtain ⟨m, t, sn, TL, h⟩ := hR
      rcases (show v = 0 ∨ v = 1 ∨ v = 2 ∨ v = 3 ∨ v = 4 ∨ v = 5 ∨ v = 6 ∨ v = 7 ∨ v = 8 ∨ v = 9 ∨ v = 10 ∨ v = 11 ∨ v = 12 ∨ v = 13 ∨ v = 14 ∨ v = 15 ∨ v = 16 ∨ v = 17 ∨ v = 18 ∨ v = 19 ∨ v = 20 ∨ v = 21 ∨ v = 22 ∨ v = 23 ∨ v = 24 ∨ v = 25 ∨ v = 26 ∨ v = 27 ∨ v = 28 ∨ v = 29 ∨ v = 30 ∨ v = 31 by omega) with rfl | rfl | rfl | rfl | rfl | rfl | rfl | rfl | rfl | rfl | rfl | rfl | rfl | rfl | rfl | rfl | rfl | rfl | rfl | rfl | rfl | rfl | rfl | rfl | rfl | rfl | rfl | rfl | rfl | rfl | rfl | rfl
      · exact v_tabIn (x := nI 0) (tgt := 160) hC dL_law_32 (by decide) (by decide) rfl (by decide) (lc_newSet hC hS h hi5 hL kk)
      · exact v_tabIn (x := nI 1) (tgt := 183) hC dL_law_32 (by decide) (by decide) rfl (by decide) (lc_pay hC hS h hi5 hL kk)
      · exact v_tabIn (x := nI 2) (tgt := 216) hC dL_law_32 (by decide) (by decide) rfl (by decide) (lc_sail hC hS h hi5 hL kk)
      · exact v_tabIn (x := nI 3) (tgt := 239) hC dL_law_32 (by decide) (by decide) rfl (by decide) (lc_dock hC hS h hi5 hL kk)
      · exact v_tabIn (x := nI 4) (tgt := 262) hC dL_law_32 (by decide) (by decide) rfl (by decide) (lc_add hC hS h hi5 hL kk)
      · exact v_tabIn (x := nI 5) (tgt := 295) hC dL_law_32 (by decide) (by decide) rfl (by decide) (lc_remove hC hS h hi5 hL kk)
      · exact v_tabIn (x := nI 6) (tgt := 328) hC dL_law_32 (by decide) (by decide) rfl (by decide) (lc_addRange hC hS h hi5 hL kk)
      · exact v_tabIn (x := nI 7) (tgt := 371) hC dL_law_32 (by decide) (by decide) rfl (by decide) (lc_removeRange hC hS h hi5 hL kk)
      · exact v_tabIn (x := nI 8) (tgt := 414) hC dL_law_32 (by decide) (by decide) rfl (by decide) (lc_combine hC hS h hi5 hL kk)
      · exact v_tabIn (x := nI 9) (tgt := 467) hC dL_law_32 (by decide) (by decide) rfl (by decide) (lc_type hC hS h hi5 hL kk)
      · exact v_tabIn (x := nI 10) (tgt := 492) hC dL_law_32 (by decide) (by decide) rfl (by decide) (lc_clearText hC hS h hi5 hL kk)
      · exact v_tabIn (x := nI 11) (tgt := 505) hC dL_law_32 (by decide) (by decide) rfl (by decide) (lc_readRanges hC hS h hi5 hL kk)
      · obtain ⟨u, hu1, hu2⟩ := h.2.2.2.2 (2 + xq X (t - 1)) (by have := h.2.1.1.2.2.1.1 (t - 1); omega)
        exact v_tabIn (x := nI 12) (tgt := 528) hC dL_law_32 (by decide) (by decide) rfl (by decide) (lc_undo hC hS h hu1 hu2 hi5 hL kk)
      · exact v_tabIn (x := nI 13) (tgt := 541) hC dL_law_32 (by decide) (by decide) rfl (by decide) (lc_keep hC hS h hi5 hL kk)
      · obtain ⟨u, hu1, hu2⟩ := h.2.2.2.2 1 (by omega)
        exact v_tabIn (x := nI 14) (tgt := 554) hC dL_law_32 (by decide) (by decide) rfl (by decide) (lc_restore hC hS h hu1 hu2 hi5 hL kk)
      · exact v_tabIn (x := nI 15) (tgt := 567) hC dL_law_32 (by decide) (by decide) rfl (by decide) (lc_has hC hS h hi5 hL kk)
      · exact v_tabIn (x := nI 16) (tgt := 600) hC dL_law_32 (by decide) (by decide) rfl (by decide) (lc_set hC hS h hi5 hL kk)
      · exact v_tabIn (x := nI 17) (tgt := 633) hC dL_law_32 (by decide) (by decide) rfl (by decide) (lc_boat hC hS h hi5 hL kk)
      · exact v_tabIn (x := nI 18) (tgt := 676) hC dL_law_32 (by decide) (by decide) rfl (by decide) (lc_rank hC hS h hi5 hL kk)
      · exact v_tabIn (x := nI 19) (tgt := 709) hC dL_law_32 (by decide) (by decide) rfl (by decide) (lc_at hC hS h hi5 hL kk)
      · exact v_tabIn (x := nI 20) (tgt := 742) hC dL_law_32 (by decide) (by decide) rfl (by decide) (lc_next hC hS h hi5 hL kk)
      · exact v_tabIn (x := nI 21) (tgt := 775) hC dL_law_32 (by decide) (by decide) rfl (by decide) (lc_nearest hC hS h hi5 hL kk)
      · exact v_tabIn (x := nI 22) (tgt := 808) hC dL_law_32 (by decide) (by decide) rfl (by decide) (lc_gap hC hS h hi5 hL kk)
      · exact v_tabIn (x := nI 23) (tgt := 841) hC dL_law_32 (by decide) (by decide) rfl (by decide) (lc_sizeOf hC hS h hi5 hL kk)
      · exact v_tabIn (x := nI 24) (tgt := 884) hC dL_law_32 (by decide) (by decide) rfl (by decide) (lc_ofAll hC hS h hi5 hL kk)
      · exact v_tabIn (x := nI 25) (tgt := 907) hC dL_law_32 (by decide) (by decide) rfl (by decide) (lc_most hC hS h hi5 hL kk)
      · exact v_tabIn (x := nI 26) (tgt := 920) hC dL_law_32 (by decide) (by decide) rfl (by decide) (lc_tollToDock hC hS h hi5 hL kk)
      · exact v_tabIn (x := nI 27) (tgt := 943) hC dL_law_32 (by decide) (by decide) rfl (by decide) (lc_count hC hS h hi5 hL kk)
      · exact v_tabOut (x := nI 28) (tgt := 966) hC dL_law_32 (by decide) (by decide) (kk X Y hR0)
      · exact v_tabOut (x := nI 29) (tgt := 966) hC dL_law_32 (by decide) (by decide) (kk X Y hR0)
      · exact v_tabOut (x := nI 30) (tgt := 966) hC dL_law_32 (by decide) (by decide) (kk X Y hR0)
      · exact v_tabOut (x := nI 31) (tgt := 966) hC dL_law_32 (by decide) (by decide) (kk X Y hR0)
end LLOOP
