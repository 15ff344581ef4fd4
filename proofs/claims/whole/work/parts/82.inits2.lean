/-! The constructors of harbours, of the history, of BoatSets -/
def bLs {S : Type} (W : Nat → S → va_W) (g : Nat → Nat) (b : Nat → S) : Nat → va_W
  | 0 => []
  | j + 1 => W (g j) (b j) ++ bLs W g b j
theorem bLs_up {S : Type} {W : Nat → S → va_W} {g : Nat → Nat} {b : Nat → S} {k q : Nat} {a : S} : ∀ j, j ≤ k → bLs W (va_up g k q) (va_up b k a) j = bLs W g b j
  | 0, _ => rfl
  | j + 1, h => by
    show W (va_up g k q j) (va_up b k a j) ++ _ = _
    rw [va_up_ne _ _ (by omega), va_up_ne _ _ (by omega), bLs_up j (by omega)]
    rfl
theorem bLs_s {S : Type} {W : Nat → S → va_W} {g : Nat → Nat} {b : Nat → S} {k q : Nat} {a : S} : bLs W (va_up g k q) (va_up b k a) (k + 1) = W q a ++ bLs W g b k := by
  show W (va_up g k q k) (va_up b k a k) ++ _ = _
  rw [va_up_self, va_up_self, bLs_up k (Nat.le_refl _)]
/-- a row of references, filled up to j -/
def rwF (g : Nat → Nat) (j : Nat) : Nat → Option Nat := fun i => if i < j then some (g i) else none
theorem rwF_0 (g : Nat → Nat) : rwF g 0 = fun _ => none := by
  funext i
  unfold rwF
  rw [if_neg (Nat.not_lt_zero _)]
theorem rwF_s {g : Nat → Nat} {k q : Nat} : va_up (rwF g k) k (some q) = rwF (va_up g k q) (k + 1) := by
  funext i
  by_cases h : i = k
  · subst h
    rw [va_up_self]
    unfold rwF
    rw [if_pos (Nat.lt_succ_self _), va_up_self]
  · rw [va_up_ne _ _ h]
    unfold rwF
    rw [va_up_ne _ _ h]
    by_cases h2 : i < k
    · rw [if_pos h2, if_pos (by omega)]
    · rw [if_neg h2, if_neg (by omega)]
abbrev SH : Type := Nat × (Nat → Nat) × (Nat → Nat → Nat)
def zhW (cy : Nat → ClassId) (h0 : Nat) (u : SH) : va_W := (h0, .inr (1, [.ref u.1, .int 0])) :: (u.1, .inl (cy 3, 6, .inr (.inr (.inr (.inr (rwF u.2.1 6)))))) :: bLs (zfW cy) u.2.1 u.2.2 6
abbrev SP : Type := Nat × (Nat → Nat) × (Nat → SH)
def ziW (cy : Nat → ClassId) (h0 : Nat) (u : SP) : va_W := (h0, .inr (2, [.ref u.1, .int 0])) :: (u.1, .inl (cy 4, 4, .inr (.inr (.inr (.inr (rwF u.2.1 4)))))) :: bLs (zhW cy) u.2.1 u.2.2 4

theorem inI_X1_X1 : ∀ w ∈ wsX10, w ∈ wsX1_init := by decide +kernel
theorem inI_X1_X0 : ∀ w ∈ wsX00, w ∈ wsX1_init := by decide +kernel
set_option maxHeartbeats 1000000 in
set_option maxRecDepth 100000 in
theorem i_X1 (l : Launch) (D : va_G) (cy : Nat → ClassId) : ConI l D cy yX1_init wsX1_init { frames := 2, cells := 31, slots := 384, locals := 32 } 1 [.null, .int 0] (zhW cy) 31 384 := by
  refine coni_start (cc := cX1_init) (maxL := 2) (by decide) rfl rfl (Nat.le_of_ble_eq_true rfl) ?_
  intro p e s m args below meth c h0 A ls S hr hlocks hnm hK ha0 ha1 hA hP hD hl
  have hown : s.vm.findClass RX1 = some m.cls := S.2.2.2.1
  obtain ⟨hx, hb, hml, -, hts⟩ := id S
  have hS : va_S A s.heap s.heap [] := va_S.rf
  refine lv_aload_n hx hb dX1_init_0 rfl (lv_at hl 0 rfl) ?_
  refine W.objInit hx hb hown (hts _ (List.mem_of_getElem? (i := 1) rfl : Cond.methodLink RX1 3 objectInit ∈ wsX1_init)) (hts _ (List.mem_of_getElem? (i := 2) rfl : Cond.instanceMethod objectInit ∈ wsX1_init)) (hts _ (List.mem_of_getElem? (i := 3) rfl : Cond.code objectInit ⟨#[0xb1]⟩ 1 none ∈ wsX1_init)) rfl (by rw [hml]; exact hl.1) rfl dX1_init_1 (Nat.le_of_ble_eq_true rfl) (Nat.le_of_ble_eq_true rfl) ?_
  refine W.eq (g2 := F0 m 4 ls []) rfl ?_
  refine lv_aload_n hx hb dX1_init_4 rfl (lv_at hl 0 rfl) ?_
  refine lv_bipush (v := 6) hx hb dX1_init_5 (by decide) ?_
  refine z_newq (N := 6) S 3 (List.mem_of_getElem? (i := 4) rfl) ha0 rfl hK hP hD hS hA (by decide) (by decide) (by decide) (Nat.le_of_ble_eq_true rfl) (Nat.le_of_ble_eq_true rfl) dX1_init_7 (fun q0 H hP hD hS => ?_)
  refine W.widen (k := 1) (n := 6) (by decide) (by decide) ?_
  refine va_putF (D := D) (ci := 1) (v := .ref q0) (ty := .array (.object "BoatSets$Fleet")) (C := RX1) (T := TX1) (N := 2) hx hb hts inI_X1_X1 tyX1 tyX1_ok nmX1 hown hK hP hD hS 0 rfl rfl 0 (by decide) (hts _ (List.mem_of_getElem? (i := 5) rfl)) (fun _ h9 => h9) rfl hnm rfl (by decide +kernel) rfl rfl (Nat.le_of_ble_eq_true rfl) dX1_init_10 (fun H locs hP hD hS => ?_)
  refine lv_iconst (v := 0) hx hb dX1_init_13 (by decide) ?_
  refine lv_istore_n (lv' := [(1, .int 0), (0, .ref h0)]) hx hb dX1_init_14 rfl hl (by decide) rfl (fun ls hl => ?_)
  have L : ∀ (n j : Nat) (x : Int32) (g : Nat → Nat) (b : Nat → (Nat → Nat)) (H : Heap) (locs : List Loc) (ls : Array Slot), j ≤ 6 → x = nI j → 6 - j < n → va_P D vwCl ((h0, .inr (1, [.ref q0, .int 0])) :: (q0, .inl (cy 3, 6, .inr (.inr (.inr (.inr (rwF g j)))))) :: bLs (zfW cy) g b j) H → va_D A ((h0, .inr (1, [.ref q0, .int 0])) :: (q0, .inl (cy 3, 6, .inr (.inr (.inr (.inr (rwF g j)))))) :: bLs (zfW cy) g b j) → va_S A s.heap H locs → lv_has ls 2 [(1, .int x), (0, .ref h0)] → W p l e { frames := 2, cells := 31, slots := 384, locals := 32 } s m args below meth c H locs (1 + 5 * j) (6 + 63 * j) (MQ below (va_Qv (S := SH) (fun _ => True) (fun a t => va_P D vwCl (zhW cy h0 a) t.heap ∧ va_D A (zhW cy h0 a)) A) args s 31 384 A) (F0 m 15 ls []) := by
    intro n
    induction n with
    | zero => intro j x g b H locs ls hj ex hn; exact absurd hn (Nat.not_lt_zero _)
    | succ n ih =>
      intro j x g b H locs ls hj ex hn hP hD hS hl
      subst ex
      refine lv_iload_n hx hb dX1_init_15 rfl (lv_at hl 0 rfl) ?_
      refine lv_bipush (v := 6) hx hb dX1_init_16 (by decide) ?_
      refine lv_icmp_ge (tgt := 40) hx hb dX1_init_18 (by decide) (fun cc => ?_) (fun cc => ?_)
      · have hj2 : j = 6 := by
          have := (nI_leI (a := 6) (by decide) (by omega)).mp cc
          omega
        subst hj2
        exact W.vret hx hb hr (fun t ht hW => ⟨⟨(q0, g, b), rfl, trivial, by rw [ht]; exact hP, hD⟩, hS.F ht⟩) hS.2.2 dX1_init_40
      · have hlt : j < 6 := by
          rcases Nat.lt_or_ge j 6 with z | z
          · exact z
          · exact absurd ((nI_leI (a := 6) (by decide) (by omega)).mpr z) cc
        refine lv_aload_n hx hb dX1_init_21 rfl (lv_at hl 1 rfl) ?_
        refine va_get (D := D) (ci := 1) (v := .ref q0) (C := RX1) (T := TX1) (N := 2) hx hb hts inI_X1_X1 hown hK hP 0 rfl rfl 0 (by decide) (hts _ (List.mem_of_getElem? (i := 5) rfl)) (fun _ h9 => h9) rfl dX1_init_22 ?_
        refine lv_iload_n hx hb dX1_init_25 rfl (lv_at hl 0 rfl) ?_
        refine z_make S hK ha0 ha1 hP hD hS hA hl.1 (i_X0 l D cy) rfl inI_X1_X0 tyX0 tyX0_ok (fun j hj => by rcases (show j = 0 ∨ j = 1 ∨ j = 2 ∨ j = 3 ∨ j = 4 ∨ j = 5 ∨ j = 6 by omega) with rfl | rfl | rfl | rfl | rfl | rfl | rfl <;> rfl) (List.mem_of_getElem? (i := 4) rfl) (List.mem_of_getElem? (i := 6) rfl) (List.mem_of_getElem? (i := 7) rfl) gX1_init_X0_init rfl rfl rfl rfl (List.mem_of_getElem? (i := 8) rfl) (List.mem_of_getElem? (i := 9) rfl) rfl (by decide +kernel) ⟨Nat.le_of_ble_eq_true rfl, Nat.le_of_ble_eq_true rfl⟩ (by show 1 + 5 * j + 1 + 4 ≤ 31; omega) (by show 6 + 63 * j + 7 + 56 ≤ 384; omega) (Nat.le_of_ble_eq_true rfl) dX1_init_26 dX1_init_29 dX1_init_30 (fun q a H locs hP hD hS => ?_)
        have hp : (zfW cy q a ++ ((h0, .inr (1, [.ref q0, .int 0])) :: (q0, .inl (cy 3, 6, .inr (.inr (.inr (.inr (rwF g j)))))) :: bLs (zfW cy) g b j)).Perm ((h0, .inr (1, [.ref q0, .int 0])) :: (q0, .inl (cy 3, 6, .inr (.inr (.inr (.inr (rwF g j)))))) :: (zfW cy q a ++ bLs (zfW cy) g b j)) := List.perm_append_comm_assoc (zfW cy q a) [(h0, .inr (1, [.ref q0, .int 0])), (q0, .inl (cy 3, 6, .inr (.inr (.inr (.inr (rwF g j))))))] (bLs (zfW cy) g b j)
        have hP := wp_P hP hp
        have hD := wp_D hD hp
        refine va_astq hx hb hK hP hD hS 1 3 2 0 (r := (RX0, TX0, 7)) rfl rfl rfl rfl (vp_in_nI hlt (by decide)) dX1_init_33 (fun H locs hP hD hS => ?_)
        rw [nI_clamp (show j < 2 ^ 31 by omega), rwF_s] at hP hD
        have ew : ((h0, .inr (1, [.ref q0, .int 0])) :: (q0, .inl (cy 3, 6, .inr (.inr (.inr (.inr (rwF (va_up g j q) (j + 1))))))) :: bLs (zfW cy) (va_up g j q) (va_up b j a) (j + 1)) = ((h0, .inr (1, [.ref q0, .int 0])) :: (q0, .inl (cy 3, 6, .inr (.inr (.inr (.inr (rwF (va_up g j q) (j + 1))))))) :: (zfW cy q a ++ bLs (zfW cy) g b j)) := by rw [bLs_s]
        have hP : va_P D vwCl ((h0, .inr (1, [.ref q0, .int 0])) :: (q0, .inl (cy 3, 6, .inr (.inr (.inr (.inr (rwF (va_up g j q) (j + 1))))))) :: bLs (zfW cy) (va_up g j q) (va_up b j a) (j + 1)) H := by rw [ew]; exact hP
        have hD : va_D A ((h0, .inr (1, [.ref q0, .int 0])) :: (q0, .inl (cy 3, 6, .inr (.inr (.inr (.inr (rwF (va_up g j q) (j + 1))))))) :: bLs (zfW cy) (va_up g j q) (va_up b j a) (j + 1)) := by rw [ew]; exact hD
        refine lv_iinc (v := nI (j + 1)) (lv' := [(1, .int (nI (j + 1))), (0, .ref h0)]) hx hb dX1_init_34 hl (k := 0) rfl (nI_add j 1) (by decide) rfl (fun ls hl => ?_)
        refine lv_goto (tgt := 15) hx hb dX1_init_37 (by decide) ?_
        refine W.widen (k := 1 + 5 * (j + 1)) (n := 6 + 63 * (j + 1)) (by omega) (by omega) ?_
        exact ih (j + 1) _ _ _ H locs ls (by omega) rfl (by omega) hP hD hS hl
  have e0 : ([(h0, .inr (1, [.ref q0, .int 0])), (q0, .inl (cy 3, 6, .inr (.inr (.inr (.inr (fun _ => none))))))] : va_W) = ((h0, .inr (1, [.ref q0, .int 0])) :: (q0, .inl (cy 3, 6, .inr (.inr (.inr (.inr (rwF (fun _ => 0) 0)))))) :: bLs (zfW cy) (fun _ => 0) (fun _ => (fun _ => 0)) 0) := by rw [rwF_0]; rfl
  have hP : va_P D vwCl ((h0, .inr (1, [.ref q0, .int 0])) :: (q0, .inl (cy 3, 6, .inr (.inr (.inr (.inr (rwF (fun _ => 0) 0)))))) :: bLs (zfW cy) (fun _ => 0) (fun _ => (fun _ => 0)) 0) H := e0 ▸ hP
  have hD : va_D A ((h0, .inr (1, [.ref q0, .int 0])) :: (q0, .inl (cy 3, 6, .inr (.inr (.inr (.inr (rwF (fun _ => 0) 0)))))) :: bLs (zfW cy) (fun _ => 0) (fun _ => (fun _ => 0)) 0) := e0 ▸ hD
  exact L 7 0 _ _ _ H locs ls (Nat.zero_le _) rfl (by decide) hP hD hS hl

theorem inI_X2_X2 : ∀ w ∈ wsX20, w ∈ wsX2_init := by decide +kernel
theorem inI_X2_X1 : ∀ w ∈ wsX10, w ∈ wsX2_init := by decide +kernel
set_option maxHeartbeats 1000000 in
set_option maxRecDepth 100000 in
theorem i_X2 (l : Launch) (D : va_G) (cy : Nat → ClassId) : ConI l D cy yX2_init wsX2_init { frames := 3, cells := 129, slots := 1548, locals := 53 } 2 [.null, .int 0] (ziW cy) 129 1548 := by
  refine coni_start (cc := cX2_init) (maxL := 2) (by decide) rfl rfl (Nat.le_of_ble_eq_true rfl) ?_
  intro p e s m args below meth c h0 A ls S hr hlocks hnm hK ha0 ha1 hA hP hD hl
  have hown : s.vm.findClass RX2 = some m.cls := S.2.2.2.1
  obtain ⟨hx, hb, hml, -, hts⟩ := id S
  have hS : va_S A s.heap s.heap [] := va_S.rf
  refine lv_aload_n hx hb dX2_init_0 rfl (lv_at hl 0 rfl) ?_
  refine W.objInit hx hb hown (hts _ (List.mem_of_getElem? (i := 1) rfl : Cond.methodLink RX2 3 objectInit ∈ wsX2_init)) (hts _ (List.mem_of_getElem? (i := 2) rfl : Cond.instanceMethod objectInit ∈ wsX2_init)) (hts _ (List.mem_of_getElem? (i := 3) rfl : Cond.code objectInit ⟨#[0xb1]⟩ 1 none ∈ wsX2_init)) rfl (by rw [hml]; exact hl.1) rfl dX2_init_1 (Nat.le_of_ble_eq_true rfl) (Nat.le_of_ble_eq_true rfl) ?_
  refine W.eq (g2 := F0 m 4 ls []) rfl ?_
  refine lv_aload_n hx hb dX2_init_4 rfl (lv_at hl 0 rfl) ?_
  refine lv_iconst (v := 4) hx hb dX2_init_5 (by decide) ?_
  refine z_newq (N := 4) S 4 (List.mem_of_getElem? (i := 4) rfl) ha1 rfl hK hP hD hS hA (by decide) (by decide) (by decide) (Nat.le_of_ble_eq_true rfl) (Nat.le_of_ble_eq_true rfl) dX2_init_6 (fun q0 H hP hD hS => ?_)
  refine W.widen (k := 1) (n := 4) (by decide) (by decide) ?_
  refine va_putF (D := D) (ci := 2) (v := .ref q0) (ty := .array (.object "BoatSets$Harbour")) (C := RX2) (T := TX2) (N := 2) hx hb hts inI_X2_X2 tyX2 tyX2_ok nmX2 hown hK hP hD hS 0 rfl rfl 0 (by decide) (hts _ (List.mem_of_getElem? (i := 5) rfl)) (fun _ h9 => h9) rfl hnm rfl (by decide +kernel) rfl rfl (Nat.le_of_ble_eq_true rfl) dX2_init_9 (fun H locs hP hD hS => ?_)
  refine lv_iconst (v := 0) hx hb dX2_init_12 (by decide) ?_
  refine lv_istore_n (lv' := [(1, .int 0), (0, .ref h0)]) hx hb dX2_init_13 rfl hl (by decide) rfl (fun ls hl => ?_)
  have L : ∀ (n j : Nat) (x : Int32) (g : Nat → Nat) (b : Nat → SH) (H : Heap) (locs : List Loc) (ls : Array Slot), j ≤ 4 → x = nI j → 4 - j < n → va_P D vwCl ((h0, .inr (2, [.ref q0, .int 0])) :: (q0, .inl (cy 4, 4, .inr (.inr (.inr (.inr (rwF g j)))))) :: bLs (zhW cy) g b j) H → va_D A ((h0, .inr (2, [.ref q0, .int 0])) :: (q0, .inl (cy 4, 4, .inr (.inr (.inr (.inr (rwF g j)))))) :: bLs (zhW cy) g b j) → va_S A s.heap H locs → lv_has ls 2 [(1, .int x), (0, .ref h0)] → W p l e { frames := 3, cells := 129, slots := 1548, locals := 53 } s m args below meth c H locs (1 + 32 * j) (4 + 386 * j) (MQ below (va_Qv (S := SP) (fun _ => True) (fun a t => va_P D vwCl (ziW cy h0 a) t.heap ∧ va_D A (ziW cy h0 a)) A) args s 129 1548 A) (F0 m 14 ls []) := by
    intro n
    induction n with
    | zero => intro j x g b H locs ls hj ex hn; exact absurd hn (Nat.not_lt_zero _)
    | succ n ih =>
      intro j x g b H locs ls hj ex hn hP hD hS hl
      subst ex
      refine lv_iload_n hx hb dX2_init_14 rfl (lv_at hl 0 rfl) ?_
      refine lv_iconst (v := 4) hx hb dX2_init_15 (by decide) ?_
      refine lv_icmp_ge (tgt := 38) hx hb dX2_init_16 (by decide) (fun cc => ?_) (fun cc => ?_)
      · have hj2 : j = 4 := by
          have := (nI_leI (a := 4) (by decide) (by omega)).mp cc
          omega
        subst hj2
        exact W.vret hx hb hr (fun t ht hW => ⟨⟨(q0, g, b), rfl, trivial, by rw [ht]; exact hP, hD⟩, hS.F ht⟩) hS.2.2 dX2_init_38
      · have hlt : j < 4 := by
          rcases Nat.lt_or_ge j 4 with z | z
          · exact z
          · exact absurd ((nI_leI (a := 4) (by decide) (by omega)).mpr z) cc
        refine lv_aload_n hx hb dX2_init_19 rfl (lv_at hl 1 rfl) ?_
        refine va_get (D := D) (ci := 2) (v := .ref q0) (C := RX2) (T := TX2) (N := 2) hx hb hts inI_X2_X2 hown hK hP 0 rfl rfl 0 (by decide) (hts _ (List.mem_of_getElem? (i := 5) rfl)) (fun _ h9 => h9) rfl dX2_init_20 ?_
        refine lv_iload_n hx hb dX2_init_23 rfl (lv_at hl 0 rfl) ?_
        refine z_make S hK ha0 ha1 hP hD hS hA hl.1 (i_X1 l D cy) rfl inI_X2_X1 tyX1 tyX1_ok (fun j hj => by rcases (show j = 0 ∨ j = 1 by omega) with rfl | rfl <;> rfl) (List.mem_of_getElem? (i := 4) rfl) (List.mem_of_getElem? (i := 6) rfl) (List.mem_of_getElem? (i := 7) rfl) gX2_init_X1_init rfl rfl rfl rfl (List.mem_of_getElem? (i := 8) rfl) (List.mem_of_getElem? (i := 9) rfl) rfl (by decide +kernel) ⟨Nat.le_of_ble_eq_true rfl, Nat.le_of_ble_eq_true rfl⟩ (by show 1 + 32 * j + 1 + 31 ≤ 129; omega) (by show 4 + 386 * j + 2 + 384 ≤ 1548; omega) (Nat.le_of_ble_eq_true rfl) dX2_init_24 dX2_init_27 dX2_init_28 (fun q a H locs hP hD hS => ?_)
        have hp : (zhW cy q a ++ ((h0, .inr (2, [.ref q0, .int 0])) :: (q0, .inl (cy 4, 4, .inr (.inr (.inr (.inr (rwF g j)))))) :: bLs (zhW cy) g b j)).Perm ((h0, .inr (2, [.ref q0, .int 0])) :: (q0, .inl (cy 4, 4, .inr (.inr (.inr (.inr (rwF g j)))))) :: (zhW cy q a ++ bLs (zhW cy) g b j)) := List.perm_append_comm_assoc (zhW cy q a) [(h0, .inr (2, [.ref q0, .int 0])), (q0, .inl (cy 4, 4, .inr (.inr (.inr (.inr (rwF g j))))))] (bLs (zhW cy) g b j)
        have hP := wp_P hP hp
        have hD := wp_D hD hp
        refine va_astq hx hb hK hP hD hS 1 4 2 1 (r := (RX1, TX1, 2)) rfl rfl rfl rfl (vp_in_nI hlt (by decide)) dX2_init_31 (fun H locs hP hD hS => ?_)
        rw [nI_clamp (show j < 2 ^ 31 by omega), rwF_s] at hP hD
        have ew : ((h0, .inr (2, [.ref q0, .int 0])) :: (q0, .inl (cy 4, 4, .inr (.inr (.inr (.inr (rwF (va_up g j q) (j + 1))))))) :: bLs (zhW cy) (va_up g j q) (va_up b j a) (j + 1)) = ((h0, .inr (2, [.ref q0, .int 0])) :: (q0, .inl (cy 4, 4, .inr (.inr (.inr (.inr (rwF (va_up g j q) (j + 1))))))) :: (zhW cy q a ++ bLs (zhW cy) g b j)) := by rw [bLs_s]
        have hP : va_P D vwCl ((h0, .inr (2, [.ref q0, .int 0])) :: (q0, .inl (cy 4, 4, .inr (.inr (.inr (.inr (rwF (va_up g j q) (j + 1))))))) :: bLs (zhW cy) (va_up g j q) (va_up b j a) (j + 1)) H := by rw [ew]; exact hP
        have hD : va_D A ((h0, .inr (2, [.ref q0, .int 0])) :: (q0, .inl (cy 4, 4, .inr (.inr (.inr (.inr (rwF (va_up g j q) (j + 1))))))) :: bLs (zhW cy) (va_up g j q) (va_up b j a) (j + 1)) := by rw [ew]; exact hD
        refine lv_iinc (v := nI (j + 1)) (lv' := [(1, .int (nI (j + 1))), (0, .ref h0)]) hx hb dX2_init_32 hl (k := 0) rfl (nI_add j 1) (by decide) rfl (fun ls hl => ?_)
        refine lv_goto (tgt := 14) hx hb dX2_init_35 (by decide) ?_
        refine W.widen (k := 1 + 32 * (j + 1)) (n := 4 + 386 * (j + 1)) (by omega) (by omega) ?_
        exact ih (j + 1) _ _ _ H locs ls (by omega) rfl (by omega) hP hD hS hl
  have e0 : ([(h0, .inr (2, [.ref q0, .int 0])), (q0, .inl (cy 4, 4, .inr (.inr (.inr (.inr (fun _ => none))))))] : va_W) = ((h0, .inr (2, [.ref q0, .int 0])) :: (q0, .inl (cy 4, 4, .inr (.inr (.inr (.inr (rwF (fun _ => 0) 0)))))) :: bLs (zhW cy) (fun _ => 0) (fun _ => (0, (fun _ => 0), (fun _ _ => 0))) 0) := by rw [rwF_0]; rfl
  have hP : va_P D vwCl ((h0, .inr (2, [.ref q0, .int 0])) :: (q0, .inl (cy 4, 4, .inr (.inr (.inr (.inr (rwF (fun _ => 0) 0)))))) :: bLs (zhW cy) (fun _ => 0) (fun _ => (0, (fun _ => 0), (fun _ _ => 0))) 0) H := e0 ▸ hP
  have hD : va_D A ((h0, .inr (2, [.ref q0, .int 0])) :: (q0, .inl (cy 4, 4, .inr (.inr (.inr (.inr (rwF (fun _ => 0) 0)))))) :: bLs (zhW cy) (fun _ => 0) (fun _ => (0, (fun _ => 0), (fun _ _ => 0))) 0) := e0 ▸ hD
  exact L 5 0 _ _ _ H locs ls (Nat.zero_le _) rfl (by decide) hP hD hS hl
