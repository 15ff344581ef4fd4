/-! The constructor of BoatSets -/
abbrev SB : Type := (Nat × SH) × (Nat × SH) × (Nat × SP) × (Nat × (Nat → Nat)) × (Nat × (Nat → Nat))
def zbW (cy : Nat → ClassId) (h0 : Nat) (u : SB) : va_W := (h0, .inr (4, [.ref u.1.1, .ref u.2.1.1, .ref u.2.2.1.1, .ref u.2.2.2.1.1, .ref u.2.2.2.2.1, .int 0])) :: (zfW cy u.2.2.2.2.1 u.2.2.2.2.2 ++ (zrW cy u.2.2.2.1.1 u.2.2.2.1.2 ++ (ziW cy u.2.2.1.1 u.2.2.1.2 ++ (zhW cy u.2.1.1 u.2.1.2 ++ (zhW cy u.1.1 u.1.2 ++ [])))))
theorem inI_X4_X0 : ∀ w ∈ wsX00, w ∈ wsX4_init := by decide +kernel
theorem inI_X4_X1 : ∀ w ∈ wsX10, w ∈ wsX4_init := by decide +kernel
theorem inI_X4_X2 : ∀ w ∈ wsX20, w ∈ wsX4_init := by decide +kernel
theorem inI_X4_X3 : ∀ w ∈ wsX30, w ∈ wsX4_init := by decide +kernel
theorem inI_X4_X4 : ∀ w ∈ wsX40, w ∈ wsX4_init := by decide +kernel
set_option maxHeartbeats 1000000 in
set_option maxRecDepth 100000 in
theorem i_X4 (l : Launch) (D : va_G) (cy : Nat → ClassId) : ConI l D cy yX4_init wsX4_init { frames := 4, cells := 203, slots := 2510, locals := 74 } 4 [.null, .null, .null, .null, .null, .int 0] (zbW cy) 203 2510 := by
  refine coni_start (cc := cX4_init) (maxL := 1) (by decide) rfl rfl (Nat.le_of_ble_eq_true rfl) ?_
  intro p e s m args below meth c h0 A ls S hr hlocks hnm hK ha0 ha1 hA hP hD hl
  have hown : s.vm.findClass RX4 = some m.cls := S.2.2.2.1
  obtain ⟨hx, hb, hml, -, hts⟩ := id S
  have hS : va_S A s.heap s.heap [] := va_S.rf
  refine lv_aload_n hx hb dX4_init_0 rfl (lv_at hl 0 rfl) ?_
  refine W.objInit hx hb hown (hts _ (List.mem_of_getElem? (i := 1) rfl : Cond.methodLink RX4 1 objectInit ∈ wsX4_init)) (hts _ (List.mem_of_getElem? (i := 2) rfl : Cond.instanceMethod objectInit ∈ wsX4_init)) (hts _ (List.mem_of_getElem? (i := 3) rfl : Cond.code objectInit ⟨#[0xb1]⟩ 1 none ∈ wsX4_init)) rfl (by rw [hml]; exact hl.1) rfl dX4_init_1 (Nat.le_of_ble_eq_true rfl) (Nat.le_of_ble_eq_true rfl) ?_
  refine W.eq (g2 := F0 m 4 ls []) rfl ?_
  refine lv_aload_n hx hb dX4_init_4 rfl (lv_at hl 0 rfl) ?_
  refine z_make S hK ha0 ha1 hP hD hS hA hl.1 (i_X1 l D cy) rfl inI_X4_X1 tyX1 tyX1_ok (fun j hj => by rcases (show j = 0 ∨ j = 1 by omega) with rfl | rfl <;> rfl) (List.mem_of_getElem? (i := 4) rfl : Cond.classLink RX4 7 RX1 ∈ wsX4_init) (List.mem_of_getElem? (i := 5) rfl : Cond.instantiable RX1 2 ∈ wsX4_init) (List.mem_of_getElem? (i := 6) rfl : Cond.initialized RX1 ∈ wsX4_init) gX4_init_X1_init rfl rfl rfl rfl (List.mem_of_getElem? (i := 22) rfl : Cond.methodLink RX4 9 yX1_init ∈ wsX4_init) (List.mem_of_getElem? (i := 23) rfl : Cond.instanceMethod yX1_init ∈ wsX4_init) rfl (by decide +kernel) ⟨Nat.le_of_ble_eq_true rfl, Nat.le_of_ble_eq_true rfl⟩ (Nat.le_of_ble_eq_true rfl) (Nat.le_of_ble_eq_true rfl) (Nat.le_of_ble_eq_true rfl) dX4_init_5 dX4_init_8 dX4_init_9 (fun q0 a0 H locs hP hD hS => ?_)
  have hp : (zhW cy q0 a0 ++ (((h0, .inr (4, [.null, .null, .null, .null, .null, .int 0])) :: []) : va_W)).Perm ((h0, .inr (4, [.null, .null, .null, .null, .null, .int 0])) :: (zhW cy q0 a0 ++ [])) := List.perm_append_comm_assoc (zhW cy q0 a0) [(h0, .inr (4, [.null, .null, .null, .null, .null, .int 0]))] []
  have hP := wp_P hP hp
  have hD := wp_D hD hp
  refine W.widen (k := 32) (n := 386) (by decide) (by decide) ?_
  refine va_putF (D := D) (ci := 4) (v := .ref q0) (ty := .object "BoatSets$Harbour") (C := RX4) (T := TX4) (N := 6) hx hb hts inI_X4_X4 tyX4 tyX4_ok nmX4 hown hK hP hD hS 0 rfl rfl 0 (by decide) (hts _ (List.mem_of_getElem? (i := 7) rfl : Cond.fieldLink RX4 10 "BoatSets" "now" "LBoatSets$Harbour;" ∈ wsX4_init)) (fun _ h9 => h9) rfl hnm rfl (by decide +kernel) rfl rfl (Nat.le_of_ble_eq_true rfl) dX4_init_12 (fun H locs hP hD hS => ?_)
  have hP : va_P D vwCl ((h0, .inr (4, [.ref q0, .null, .null, .null, .null, .int 0])) :: (zhW cy q0 a0 ++ [])) H := hP
  have hD : va_D A ((h0, .inr (4, [.ref q0, .null, .null, .null, .null, .int 0])) :: (zhW cy q0 a0 ++ [])) := hD
  refine lv_aload_n hx hb dX4_init_15 rfl (lv_at hl 0 rfl) ?_
  refine z_make S hK ha0 ha1 hP hD hS hA hl.1 (i_X1 l D cy) rfl inI_X4_X1 tyX1 tyX1_ok (fun j hj => by rcases (show j = 0 ∨ j = 1 by omega) with rfl | rfl <;> rfl) (List.mem_of_getElem? (i := 4) rfl : Cond.classLink RX4 7 RX1 ∈ wsX4_init) (List.mem_of_getElem? (i := 5) rfl : Cond.instantiable RX1 2 ∈ wsX4_init) (List.mem_of_getElem? (i := 6) rfl : Cond.initialized RX1 ∈ wsX4_init) gX4_init_X1_init rfl rfl rfl rfl (List.mem_of_getElem? (i := 22) rfl : Cond.methodLink RX4 9 yX1_init ∈ wsX4_init) (List.mem_of_getElem? (i := 23) rfl : Cond.instanceMethod yX1_init ∈ wsX4_init) rfl (by decide +kernel) ⟨Nat.le_of_ble_eq_true rfl, Nat.le_of_ble_eq_true rfl⟩ (Nat.le_of_ble_eq_true rfl) (Nat.le_of_ble_eq_true rfl) (Nat.le_of_ble_eq_true rfl) dX4_init_16 dX4_init_19 dX4_init_20 (fun q1 a1 H locs hP hD hS => ?_)
  have hp : (zhW cy q1 a1 ++ (((h0, .inr (4, [.ref q0, .null, .null, .null, .null, .int 0])) :: (zhW cy q0 a0 ++ [])) : va_W)).Perm ((h0, .inr (4, [.ref q0, .null, .null, .null, .null, .int 0])) :: (zhW cy q1 a1 ++ (zhW cy q0 a0 ++ []))) := List.perm_append_comm_assoc (zhW cy q1 a1) [(h0, .inr (4, [.ref q0, .null, .null, .null, .null, .int 0]))] (zhW cy q0 a0 ++ [])
  have hP := wp_P hP hp
  have hD := wp_D hD hp
  refine W.widen (k := 64) (n := 772) (by decide) (by decide) ?_
  refine va_putF (D := D) (ci := 4) (v := .ref q1) (ty := .object "BoatSets$Harbour") (C := RX4) (T := TX4) (N := 6) hx hb hts inI_X4_X4 tyX4 tyX4_ok nmX4 hown hK hP hD hS 0 rfl rfl 1 (by decide) (hts _ (List.mem_of_getElem? (i := 8) rfl : Cond.fieldLink RX4 16 "BoatSets" "snapshot" "LBoatSets$Harbour;" ∈ wsX4_init)) (fun _ h9 => h9) rfl hnm rfl (by decide +kernel) rfl rfl (Nat.le_of_ble_eq_true rfl) dX4_init_23 (fun H locs hP hD hS => ?_)
  have hP : va_P D vwCl ((h0, .inr (4, [.ref q0, .ref q1, .null, .null, .null, .int 0])) :: (zhW cy q1 a1 ++ (zhW cy q0 a0 ++ []))) H := hP
  have hD : va_D A ((h0, .inr (4, [.ref q0, .ref q1, .null, .null, .null, .int 0])) :: (zhW cy q1 a1 ++ (zhW cy q0 a0 ++ []))) := hD
  refine lv_aload_n hx hb dX4_init_26 rfl (lv_at hl 0 rfl) ?_
  refine z_make S hK ha0 ha1 hP hD hS hA hl.1 (i_X2 l D cy) rfl inI_X4_X2 tyX2 tyX2_ok (fun j hj => by rcases (show j = 0 ∨ j = 1 by omega) with rfl | rfl <;> rfl) (List.mem_of_getElem? (i := 9) rfl : Cond.classLink RX4 19 RX2 ∈ wsX4_init) (List.mem_of_getElem? (i := 10) rfl : Cond.instantiable RX2 2 ∈ wsX4_init) (List.mem_of_getElem? (i := 11) rfl : Cond.initialized RX2 ∈ wsX4_init) gX4_init_X2_init rfl rfl rfl rfl (List.mem_of_getElem? (i := 38) rfl : Cond.methodLink RX4 21 yX2_init ∈ wsX4_init) (List.mem_of_getElem? (i := 39) rfl : Cond.instanceMethod yX2_init ∈ wsX4_init) rfl (by decide +kernel) ⟨Nat.le_of_ble_eq_true rfl, Nat.le_of_ble_eq_true rfl⟩ (Nat.le_of_ble_eq_true rfl) (Nat.le_of_ble_eq_true rfl) (Nat.le_of_ble_eq_true rfl) dX4_init_27 dX4_init_30 dX4_init_31 (fun q2 a2 H locs hP hD hS => ?_)
  have hp : (ziW cy q2 a2 ++ (((h0, .inr (4, [.ref q0, .ref q1, .null, .null, .null, .int 0])) :: (zhW cy q1 a1 ++ (zhW cy q0 a0 ++ []))) : va_W)).Perm ((h0, .inr (4, [.ref q0, .ref q1, .null, .null, .null, .int 0])) :: (ziW cy q2 a2 ++ (zhW cy q1 a1 ++ (zhW cy q0 a0 ++ [])))) := List.perm_append_comm_assoc (ziW cy q2 a2) [(h0, .inr (4, [.ref q0, .ref q1, .null, .null, .null, .int 0]))] (zhW cy q1 a1 ++ (zhW cy q0 a0 ++ []))
  have hP := wp_P hP hp
  have hD := wp_D hD hp
  refine W.widen (k := 194) (n := 2322) (by decide) (by decide) ?_
  refine va_putF (D := D) (ci := 4) (v := .ref q2) (ty := .object "BoatSets$History") (C := RX4) (T := TX4) (N := 6) hx hb hts inI_X4_X4 tyX4 tyX4_ok nmX4 hown hK hP hD hS 0 rfl rfl 2 (by decide) (hts _ (List.mem_of_getElem? (i := 12) rfl : Cond.fieldLink RX4 22 "BoatSets" "past" "LBoatSets$History;" ∈ wsX4_init)) (fun _ h9 => h9) rfl hnm rfl (by decide +kernel) rfl rfl (Nat.le_of_ble_eq_true rfl) dX4_init_34 (fun H locs hP hD hS => ?_)
  have hP : va_P D vwCl ((h0, .inr (4, [.ref q0, .ref q1, .ref q2, .null, .null, .int 0])) :: (ziW cy q2 a2 ++ (zhW cy q1 a1 ++ (zhW cy q0 a0 ++ [])))) H := hP
  have hD : va_D A ((h0, .inr (4, [.ref q0, .ref q1, .ref q2, .null, .null, .int 0])) :: (ziW cy q2 a2 ++ (zhW cy q1 a1 ++ (zhW cy q0 a0 ++ [])))) := hD
  refine lv_aload_n hx hb dX4_init_37 rfl (lv_at hl 0 rfl) ?_
  refine z_make S hK ha0 ha1 hP hD hS hA hl.1 (i_X3 l D cy) rfl inI_X4_X3 tyX3 tyX3_ok (fun j hj => by rcases (show j = 0 ∨ j = 1 ∨ j = 2 ∨ j = 3 ∨ j = 4 by omega) with rfl | rfl | rfl | rfl | rfl <;> rfl) (List.mem_of_getElem? (i := 13) rfl : Cond.classLink RX4 26 RX3 ∈ wsX4_init) (List.mem_of_getElem? (i := 14) rfl : Cond.instantiable RX3 5 ∈ wsX4_init) (List.mem_of_getElem? (i := 15) rfl : Cond.initialized RX3 ∈ wsX4_init) gX4_init_X3_init rfl rfl rfl rfl (List.mem_of_getElem? (i := 45) rfl : Cond.methodLink RX4 28 yX3_init ∈ wsX4_init) (List.mem_of_getElem? (i := 46) rfl : Cond.instanceMethod yX3_init ∈ wsX4_init) rfl (by decide +kernel) ⟨Nat.le_of_ble_eq_true rfl, Nat.le_of_ble_eq_true rfl⟩ (Nat.le_of_ble_eq_true rfl) (Nat.le_of_ble_eq_true rfl) (Nat.le_of_ble_eq_true rfl) dX4_init_38 dX4_init_41 dX4_init_42 (fun q3 a3 H locs hP hD hS => ?_)
  have hp : (zrW cy q3 a3 ++ (((h0, .inr (4, [.ref q0, .ref q1, .ref q2, .null, .null, .int 0])) :: (ziW cy q2 a2 ++ (zhW cy q1 a1 ++ (zhW cy q0 a0 ++ [])))) : va_W)).Perm ((h0, .inr (4, [.ref q0, .ref q1, .ref q2, .null, .null, .int 0])) :: (zrW cy q3 a3 ++ (ziW cy q2 a2 ++ (zhW cy q1 a1 ++ (zhW cy q0 a0 ++ []))))) := List.perm_append_comm_assoc (zrW cy q3 a3) [(h0, .inr (4, [.ref q0, .ref q1, .ref q2, .null, .null, .int 0]))] (ziW cy q2 a2 ++ (zhW cy q1 a1 ++ (zhW cy q0 a0 ++ [])))
  have hP := wp_P hP hp
  have hD := wp_D hD hp
  refine W.widen (k := 198) (n := 2447) (by decide) (by decide) ?_
  refine va_putF (D := D) (ci := 4) (v := .ref q3) (ty := .object "BoatSets$RangeText") (C := RX4) (T := TX4) (N := 6) hx hb hts inI_X4_X4 tyX4 tyX4_ok nmX4 hown hK hP hD hS 0 rfl rfl 3 (by decide) (hts _ (List.mem_of_getElem? (i := 16) rfl : Cond.fieldLink RX4 29 "BoatSets" "text" "LBoatSets$RangeText;" ∈ wsX4_init)) (fun _ h9 => h9) rfl hnm rfl (by decide +kernel) rfl rfl (Nat.le_of_ble_eq_true rfl) dX4_init_45 (fun H locs hP hD hS => ?_)
  have hP : va_P D vwCl ((h0, .inr (4, [.ref q0, .ref q1, .ref q2, .ref q3, .null, .int 0])) :: (zrW cy q3 a3 ++ (ziW cy q2 a2 ++ (zhW cy q1 a1 ++ (zhW cy q0 a0 ++ []))))) H := hP
  have hD : va_D A ((h0, .inr (4, [.ref q0, .ref q1, .ref q2, .ref q3, .null, .int 0])) :: (zrW cy q3 a3 ++ (ziW cy q2 a2 ++ (zhW cy q1 a1 ++ (zhW cy q0 a0 ++ []))))) := hD
  refine lv_aload_n hx hb dX4_init_48 rfl (lv_at hl 0 rfl) ?_
  refine z_make S hK ha0 ha1 hP hD hS hA hl.1 (i_X0 l D cy) rfl inI_X4_X0 tyX0 tyX0_ok (fun j hj => by rcases (show j = 0 ∨ j = 1 ∨ j = 2 ∨ j = 3 ∨ j = 4 ∨ j = 5 ∨ j = 6 by omega) with rfl | rfl | rfl | rfl | rfl | rfl | rfl <;> rfl) (List.mem_of_getElem? (i := 17) rfl : Cond.classLink RX4 33 RX0 ∈ wsX4_init) (List.mem_of_getElem? (i := 18) rfl : Cond.instantiable RX0 7 ∈ wsX4_init) (List.mem_of_getElem? (i := 19) rfl : Cond.initialized RX0 ∈ wsX4_init) gX4_init_X0_init rfl rfl rfl rfl (List.mem_of_getElem? (i := 53) rfl : Cond.methodLink RX4 35 yX0_init ∈ wsX4_init) (List.mem_of_getElem? (i := 29) rfl : Cond.instanceMethod yX0_init ∈ wsX4_init) rfl (by decide +kernel) ⟨Nat.le_of_ble_eq_true rfl, Nat.le_of_ble_eq_true rfl⟩ (Nat.le_of_ble_eq_true rfl) (Nat.le_of_ble_eq_true rfl) (Nat.le_of_ble_eq_true rfl) dX4_init_49 dX4_init_52 dX4_init_53 (fun q4 a4 H locs hP hD hS => ?_)
  have hp : (zfW cy q4 a4 ++ (((h0, .inr (4, [.ref q0, .ref q1, .ref q2, .ref q3, .null, .int 0])) :: (zrW cy q3 a3 ++ (ziW cy q2 a2 ++ (zhW cy q1 a1 ++ (zhW cy q0 a0 ++ []))))) : va_W)).Perm ((h0, .inr (4, [.ref q0, .ref q1, .ref q2, .ref q3, .null, .int 0])) :: (zfW cy q4 a4 ++ (zrW cy q3 a3 ++ (ziW cy q2 a2 ++ (zhW cy q1 a1 ++ (zhW cy q0 a0 ++ [])))))) := List.perm_append_comm_assoc (zfW cy q4 a4) [(h0, .inr (4, [.ref q0, .ref q1, .ref q2, .ref q3, .null, .int 0]))] (zrW cy q3 a3 ++ (ziW cy q2 a2 ++ (zhW cy q1 a1 ++ (zhW cy q0 a0 ++ []))))
  have hP := wp_P hP hp
  have hD := wp_D hD hp
  refine W.widen (k := 203) (n := 2510) (by decide) (by decide) ?_
  refine va_putF (D := D) (ci := 4) (v := .ref q4) (ty := .object "BoatSets$Fleet") (C := RX4) (T := TX4) (N := 6) hx hb hts inI_X4_X4 tyX4 tyX4_ok nmX4 hown hK hP hD hS 0 rfl rfl 4 (by decide) (hts _ (List.mem_of_getElem? (i := 20) rfl : Cond.fieldLink RX4 36 "BoatSets" "trial" "LBoatSets$Fleet;" ∈ wsX4_init)) (fun _ h9 => h9) rfl hnm rfl (by decide +kernel) rfl rfl (Nat.le_of_ble_eq_true rfl) dX4_init_56 (fun H locs hP hD hS => ?_)
  have hP : va_P D vwCl ((h0, .inr (4, [.ref q0, .ref q1, .ref q2, .ref q3, .ref q4, .int 0])) :: (zfW cy q4 a4 ++ (zrW cy q3 a3 ++ (ziW cy q2 a2 ++ (zhW cy q1 a1 ++ (zhW cy q0 a0 ++ [])))))) H := hP
  have hD : va_D A ((h0, .inr (4, [.ref q0, .ref q1, .ref q2, .ref q3, .ref q4, .int 0])) :: (zfW cy q4 a4 ++ (zrW cy q3 a3 ++ (ziW cy q2 a2 ++ (zhW cy q1 a1 ++ (zhW cy q0 a0 ++ [])))))) := hD
  refine lv_aload_n hx hb dX4_init_59 rfl (lv_at hl 0 rfl) ?_
  refine lv_iconst (v := 0) hx hb dX4_init_60 (by decide) ?_
  refine va_put (D := D) (ci := 4) (v := .int 0) (ty := .boolean) (C := RX4) (T := TX4) (N := 6) hx hb hts inI_X4_X4 tyX4 tyX4_ok nmX4 hown hK hP hD hS 0 rfl rfl 5 (by decide) (hts _ (List.mem_of_getElem? (i := 21) rfl : Cond.fieldLink RX4 40 "BoatSets" "hasSnapshot" "Z" ∈ wsX4_init)) (fun _ h9 => h9) rfl (by decide +kernel) rfl rfl (Nat.le_of_ble_eq_true rfl) dX4_init_61 (fun H locs hP hD hS => ?_)
  exact W.vret hx hb hr (fun t ht hW => ⟨⟨((q0, a0), (q1, a1), (q2, a2), (q3, a3), (q4, a4)), rfl, trivial, by rw [ht]; exact hP, hD⟩, hS.F ht⟩) hS.2.2 dX4_init_64
