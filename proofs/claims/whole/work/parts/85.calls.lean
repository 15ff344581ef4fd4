/-! The law's calls: each asks the class and the reference the same, and the relation stays -/
/-- the script, as a state of the law finds it -/
def Scr (Λ : Lk) (b L : Nat) (xs : Nat → Int32) : Kx → Prop
  | (_, _, _, s, _, _, _, _, _, _, _, _, _) => va_X b L xs s s.heap ∧ b < s.heap.size ∧ ¬ Λ.2.2.2.2 b
section LROWS
variable {Λ : Lk} {κ : Kx} {R0 : Room} {cc : ByteArray} {Ts : List Cond} {own : String} {nL0 : Nat} {C : Mem} {pc : Nat} {lv : Lvs} {st : List Value} {b L : Nat} {xs : Nat → Int32}
theorem v_sld (hC : Ok Λ R0 cc Ts own nL0 κ) (hS : Scr Λ b L xs κ) {x : Int32} (j : Nat) (hx : x = nI j) (hj : j < L) (hL : L < 2 ^ 31) (hdg : decode cc pc = .ok (.iaload, 1)) (k : V Λ κ C (pc + 1) lv (.int (xs j) :: st)) : V Λ κ C pc lv (.int x :: .ref b :: st) := by
  subst hx
  obtain ⟨p, e, R, s, m, args, below, meth, c, nL, kc, ks', Q⟩ := κ
  obtain ⟨h1, h2, h3⟩ := hS
  intro H locs ls hP hD hSS hl
  refine va_sld hC.1.1 hC.1.2.1 h1 h2 h3 hSS (vp_in_nI hj hL) hdg ?_
  rw [nI_clamp (Nat.lt_trans hj hL)]
  exact k H locs ls hP hD hSS hl
theorem v_slen (hC : Ok Λ R0 cc Ts own nL0 κ) (hS : Scr Λ b L xs κ) (hdg : decode cc pc = .ok (.arraylength, 1)) (k : V Λ κ C (pc + 1) lv (.int (nI L) :: st)) : V Λ κ C pc lv (.ref b :: st) := by
  obtain ⟨p, e, R, s, m, args, below, meth, c, nL, kc, ks', Q⟩ := κ
  obtain ⟨h1, h2, h3⟩ := hS
  intro H locs ls hP hD hSS hl
  exact va_slen hC.1.1 hC.1.2.1 h1 h2 h3 hSS hdg (k H locs ls hP hD hSS hl)
/-- the law's locals -/
abbrev lwl (Λ : Lk) (b i : Nat) : Lvs := [(3, .int (nI i)), (0, .ref b), (1, rf Λ 197), (2, rf Λ 204)]
/-- script[i + k] -/
theorem v_arg (hC : Ok Λ R0 cc Ts own nL0 κ) (hS : Scr Λ b L xs κ) {i : Nat} (k : Nat) {kv : Int} {kw : Int32} (hk : Int32.ofInt kv = kw) (hkw : kw = nI k) (hj : i + k < L) (hL : L < 2 ^ 31) (d0 : decode cc pc = .ok (.aload_n 0, 1)) (d1 : decode cc (pc + 1) = .ok (.iload_n 3, 1)) (d2 : decode cc (pc + 2) = .ok (.iconst kv, 1)) (d3 : decode cc (pc + 3) = .ok (.iadd, 1)) (d4 : decode cc (pc + 4) = .ok (.iaload, 1))
    (kk : V Λ κ C (pc + 5) (lwl Λ b i) (.int (xs (i + k)) :: st)) : V Λ κ C pc (lwl Λ b i) st := by
  refine v_aload_n hC d0 1 rfl ?_
  refine v_iload_n hC d1 0 rfl ?_
  refine v_iconst (v := kw) hC d2 hk ?_
  refine v_iadd (x := nI i) (y := kw) hC d3 ?_
  exact v_sld hC hS (i + k) (by rw [hkw, nI_add]) hj hL d4 kk
end LROWS
theorem nar_ch (x : Int32) : vp_nar .char ((x.toUInt32 % 65536).toInt32) = (x.toUInt32 % 65536).toInt32 := by
  unfold vp_nar
  rw [pk_nc]
section LCALLS
variable {Λ : Lk} {κ : Kx} {b L : Nat} {xs : Nat → Int32} {X : XS} {Y : YS} {m t TL : Nat} {sn : Bool} {i : Nat}
theorem lc_newSet (hC : Ok Λ room_1 cL_law wsL_law RL 4 κ) (hS : Scr Λ b L xs κ) (h : Rel X Y m t sn TL) (hi : i + 5 ≤ L) (hL : L ≤ 2560) (kk : ∀ (X2 : XS) (Y2 : YS), (∃ m t sn TL, Rel X2 Y2 m t sn TL) → V Λ κ (CC Λ X2 Y2) 966 (lwl Λ b i) []) : V Λ κ (CC Λ X Y) 160 (lwl Λ b i) [] := by
  obtain ⟨he, hR⟩ : Ok2 (nsX X t m (xs (i + 1))) (newP Y m t (xs (i + 1))) := a_new h (xs (i + 1))
  refine v_aload_n hC dL_law_160 2 rfl ?_
  refine v_arg hC hS 1 (kw := 1) (by decide) rfl (by omega) (by omega) dL_law_161 dL_law_162 dL_law_163 dL_law_164 dL_law_165 ?_
  refine v_callVr (v := .int ((nsX X t m (xs (i + 1))).1)) (C2 := CC Λ ((nsX X t m (xs (i + 1))).2) Y) (As := [.int (xs (i + 1))]) (rest := []) hC 1 197 (c_X4_newSet Λ X Y (c := (xs (i + 1))) h.1.1 h.1.2.1 h.2.1.1.1 h.2.1.1.2.1 h.2.1.1.2.2.1.1) (nR_of (by decide)) (cc_197 Λ X Y) rfl gL_law_X4_newSet rfl rfl rfl hd_X4_newSet ⟨by decide, by decide⟩ rfl rfl (Nat.le_of_ble_eq_true rfl) dL_law_166 ?_
  refine v_aload_n hC dL_law_169 3 rfl ?_
  refine v_arg hC hS 1 (kw := 1) (by decide) rfl (by omega) (by omega) dL_law_170 dL_law_171 dL_law_172 dL_law_173 dL_law_174 ?_
  refine v_callVr (v := .int ((newP Y m t (xs (i + 1))).1)) (C2 := CC Λ ((nsX X t m (xs (i + 1))).2) ((newP Y m t (xs (i + 1))).2)) (As := [.int (xs (i + 1))]) (rest := [.int ((nsX X t m (xs (i + 1))).1)]) hC 1 204 (c_X5_newSet Λ ((nsX X t m (xs (i + 1))).2) Y (c := (xs (i + 1))) h.1.2.2.1 h.1.2.1 h.2.1.2 h.2.1.1.2.1) (nR_of (by decide)) (cc_204 Λ ((nsX X t m (xs (i + 1))).2) Y) rfl gL_law_X5_newSet rfl rfl rfl hd_X5_newSet ⟨by decide, by decide⟩ rfl rfl (Nat.le_of_ble_eq_true rfl) dL_law_175 ?_
  refine v_icmp_eq (tgt := 966) hC dL_law_178 (by decide) (fun _ => ?_) (fun hne => absurd he hne)
  exact kk _ _ hR
theorem lc_pay (hC : Ok Λ room_1 cL_law wsL_law RL 4 κ) (hS : Scr Λ b L xs κ) (h : Rel X Y m t sn TL) (hi : i + 5 ≤ L) (hL : L ≤ 2560) (kk : ∀ (X2 : XS) (Y2 : YS), (∃ m t sn TL, Rel X2 Y2 m t sn TL) → V Λ κ (CC Λ X2 Y2) 966 (lwl Λ b i) []) : V Λ κ (CC Λ X Y) 183 (lwl Λ b i) [] := by
  obtain ⟨he, hR⟩ : Ok2 (payX X t m (xs (i + 1)) (xs (i + 2))) (payP Y t (xs (i + 1)) (xs (i + 2))) := a_pay h (xs (i + 1)) (xs (i + 2))
  refine v_aload_n hC dL_law_183 2 rfl ?_
  refine v_arg hC hS 1 (kw := 1) (by decide) rfl (by omega) (by omega) dL_law_184 dL_law_185 dL_law_186 dL_law_187 dL_law_188 ?_
  refine v_arg hC hS 2 (kw := 2) (by decide) rfl (by omega) (by omega) dL_law_189 dL_law_190 dL_law_191 dL_law_192 dL_law_193 ?_
  refine v_callVr (v := .int ((payX X t m (xs (i + 1)) (xs (i + 2))).1)) (C2 := CC Λ ((payX X t m (xs (i + 1)) (xs (i + 2))).2) Y) (As := [.int (xs (i + 1)), .int (xs (i + 2))]) (rest := []) hC 2 197 (c_X4_pay Λ X Y (s := (xs (i + 1))) (c := (xs (i + 2))) h.1.1 h.1.2.1 h.2.1.1.1 h.2.1.1.2.1 h.2.1.1.2.2.1.1) (nR_of (by decide)) (cc_197 Λ X Y) rfl gL_law_X4_pay rfl rfl rfl hd_X4_pay ⟨by decide, by decide⟩ rfl rfl (Nat.le_of_ble_eq_true rfl) dL_law_194 ?_
  refine v_aload_n hC dL_law_197 3 rfl ?_
  refine v_arg hC hS 1 (kw := 1) (by decide) rfl (by omega) (by omega) dL_law_198 dL_law_199 dL_law_200 dL_law_201 dL_law_202 ?_
  refine v_arg hC hS 2 (kw := 2) (by decide) rfl (by omega) (by omega) dL_law_203 dL_law_204 dL_law_205 dL_law_206 dL_law_207 ?_
  refine v_callVr (v := .int ((payP Y t (xs (i + 1)) (xs (i + 2))).1)) (C2 := CC Λ ((payX X t m (xs (i + 1)) (xs (i + 2))).2) ((payP Y t (xs (i + 1)) (xs (i + 2))).2)) (As := [.int (xs (i + 1)), .int (xs (i + 2))]) (rest := [.int ((payX X t m (xs (i + 1)) (xs (i + 2))).1)]) hC 2 204 (c_X5_pay Λ ((payX X t m (xs (i + 1)) (xs (i + 2))).2) Y (s := (xs (i + 1))) (c := (xs (i + 2))) h.1.2.2.1 h.1.2.1 h.2.1.2 h.2.1.1.2.1) (nR_of (by decide)) (cc_204 Λ ((payX X t m (xs (i + 1)) (xs (i + 2))).2) Y) rfl gL_law_X5_pay rfl rfl rfl hd_X5_pay ⟨by decide, by decide⟩ rfl rfl (Nat.le_of_ble_eq_true rfl) dL_law_208 ?_
  refine v_icmp_eq (tgt := 966) hC dL_law_211 (by decide) (fun _ => ?_) (fun hne => absurd he hne)
  exact kk _ _ hR
theorem lc_sail (hC : Ok Λ room_1 cL_law wsL_law RL 4 κ) (hS : Scr Λ b L xs κ) (h : Rel X Y m t sn TL) (hi : i + 5 ≤ L) (hL : L ≤ 2560) (kk : ∀ (X2 : XS) (Y2 : YS), (∃ m t sn TL, Rel X2 Y2 m t sn TL) → V Λ κ (CC Λ X2 Y2) 966 (lwl Λ b i) []) : V Λ κ (CC Λ X Y) 216 (lwl Λ b i) [] := by
  obtain ⟨he, hR⟩ : Ok2 (sailX X t m (xs (i + 1))) (sailP Y t (xs (i + 1))) := a_sail h (xs (i + 1))
  refine v_aload_n hC dL_law_216 2 rfl ?_
  refine v_arg hC hS 1 (kw := 1) (by decide) rfl (by omega) (by omega) dL_law_217 dL_law_218 dL_law_219 dL_law_220 dL_law_221 ?_
  refine v_callVr (v := .int ((sailX X t m (xs (i + 1))).1)) (C2 := CC Λ ((sailX X t m (xs (i + 1))).2) Y) (As := [.int (xs (i + 1))]) (rest := []) hC 1 197 (c_X4_sail Λ X Y (s := (xs (i + 1))) h.1.1 h.1.2.1 h.2.1.1.1 h.2.1.1.2.1 h.2.1.1.2.2.1.1) (nR_of (by decide)) (cc_197 Λ X Y) rfl gL_law_X4_sail rfl rfl rfl hd_X4_sail ⟨by decide, by decide⟩ rfl rfl (Nat.le_of_ble_eq_true rfl) dL_law_222 ?_
  refine v_aload_n hC dL_law_225 3 rfl ?_
  refine v_arg hC hS 1 (kw := 1) (by decide) rfl (by omega) (by omega) dL_law_226 dL_law_227 dL_law_228 dL_law_229 dL_law_230 ?_
  refine v_callVr (v := .int ((sailP Y t (xs (i + 1))).1)) (C2 := CC Λ ((sailX X t m (xs (i + 1))).2) ((sailP Y t (xs (i + 1))).2)) (As := [.int (xs (i + 1))]) (rest := [.int ((sailX X t m (xs (i + 1))).1)]) hC 1 204 (c_X5_sail Λ ((sailX X t m (xs (i + 1))).2) Y (s := (xs (i + 1))) h.1.2.2.1 h.1.2.1 h.2.1.2 h.2.1.1.2.1) (nR_of (by decide)) (cc_204 Λ ((sailX X t m (xs (i + 1))).2) Y) rfl gL_law_X5_sail rfl rfl rfl hd_X5_sail ⟨by decide, by decide⟩ rfl rfl (Nat.le_of_ble_eq_true rfl) dL_law_231 ?_
  refine v_icmp_eq (tgt := 966) hC dL_law_234 (by decide) (fun _ => ?_) (fun hne => absurd he hne)
  exact kk _ _ hR
theorem lc_dock (hC : Ok Λ room_1 cL_law wsL_law RL 4 κ) (hS : Scr Λ b L xs κ) (h : Rel X Y m t sn TL) (hi : i + 5 ≤ L) (hL : L ≤ 2560) (kk : ∀ (X2 : XS) (Y2 : YS), (∃ m t sn TL, Rel X2 Y2 m t sn TL) → V Λ κ (CC Λ X2 Y2) 966 (lwl Λ b i) []) : V Λ κ (CC Λ X Y) 239 (lwl Λ b i) [] := by
  obtain ⟨he, hR⟩ : Ok2 (dockX X t m (xs (i + 1))) (dockP Y t (xs (i + 1))) := a_dock h (xs (i + 1))
  refine v_aload_n hC dL_law_239 2 rfl ?_
  refine v_arg hC hS 1 (kw := 1) (by decide) rfl (by omega) (by omega) dL_law_240 dL_law_241 dL_law_242 dL_law_243 dL_law_244 ?_
  refine v_callVr (v := .int ((dockX X t m (xs (i + 1))).1)) (C2 := CC Λ ((dockX X t m (xs (i + 1))).2) Y) (As := [.int (xs (i + 1))]) (rest := []) hC 1 197 (c_X4_dock Λ X Y (s := (xs (i + 1))) h.1.1 h.1.2.1 h.2.1.1.1 h.2.1.1.2.1 h.2.1.1.2.2.1.1) (nR_of (by decide)) (cc_197 Λ X Y) rfl gL_law_X4_dock rfl rfl rfl hd_X4_dock ⟨by decide, by decide⟩ rfl rfl (Nat.le_of_ble_eq_true rfl) dL_law_245 ?_
  refine v_aload_n hC dL_law_248 3 rfl ?_
  refine v_arg hC hS 1 (kw := 1) (by decide) rfl (by omega) (by omega) dL_law_249 dL_law_250 dL_law_251 dL_law_252 dL_law_253 ?_
  refine v_callVr (v := .int ((dockP Y t (xs (i + 1))).1)) (C2 := CC Λ ((dockX X t m (xs (i + 1))).2) ((dockP Y t (xs (i + 1))).2)) (As := [.int (xs (i + 1))]) (rest := [.int ((dockX X t m (xs (i + 1))).1)]) hC 1 204 (c_X5_dock Λ ((dockX X t m (xs (i + 1))).2) Y (s := (xs (i + 1))) h.1.2.2.1 h.1.2.1 h.2.1.2 h.2.1.1.2.1) (nR_of (by decide)) (cc_204 Λ ((dockX X t m (xs (i + 1))).2) Y) rfl gL_law_X5_dock rfl rfl rfl hd_X5_dock ⟨by decide, by decide⟩ rfl rfl (Nat.le_of_ble_eq_true rfl) dL_law_254 ?_
  refine v_icmp_eq (tgt := 966) hC dL_law_257 (by decide) (fun _ => ?_) (fun hne => absurd he hne)
  exact kk _ _ hR
theorem lc_add (hC : Ok Λ room_1 cL_law wsL_law RL 4 κ) (hS : Scr Λ b L xs κ) (h : Rel X Y m t sn TL) (hi : i + 5 ≤ L) (hL : L ≤ 2560) (kk : ∀ (X2 : XS) (Y2 : YS), (∃ m t sn TL, Rel X2 Y2 m t sn TL) → V Λ κ (CC Λ X2 Y2) 966 (lwl Λ b i) []) : V Λ κ (CC Λ X Y) 262 (lwl Λ b i) [] := by
  obtain ⟨he, hR⟩ : Ok2 (addX X t m (xs (i + 1)) (xs (i + 2))) (addP Y t (xs (i + 1)) (xs (i + 2))) := a_add h (xs (i + 1)) (xs (i + 2))
  refine v_aload_n hC dL_law_262 2 rfl ?_
  refine v_arg hC hS 1 (kw := 1) (by decide) rfl (by omega) (by omega) dL_law_263 dL_law_264 dL_law_265 dL_law_266 dL_law_267 ?_
  refine v_arg hC hS 2 (kw := 2) (by decide) rfl (by omega) (by omega) dL_law_268 dL_law_269 dL_law_270 dL_law_271 dL_law_272 ?_
  refine v_callVr (v := .int ((addX X t m (xs (i + 1)) (xs (i + 2))).1)) (C2 := CC Λ ((addX X t m (xs (i + 1)) (xs (i + 2))).2) Y) (As := [.int (xs (i + 1)), .int (xs (i + 2))]) (rest := []) hC 2 197 (c_X4_add Λ X Y (s := (xs (i + 1))) (n := (xs (i + 2))) h.1.1 h.1.2.1 h.2.1.1.1 h.2.1.1.2.1 h.2.1.1.2.2.1.1) (nR_of (by decide)) (cc_197 Λ X Y) rfl gL_law_X4_add rfl rfl rfl hd_X4_add ⟨by decide, by decide⟩ rfl rfl (Nat.le_of_ble_eq_true rfl) dL_law_273 ?_
  refine v_aload_n hC dL_law_276 3 rfl ?_
  refine v_arg hC hS 1 (kw := 1) (by decide) rfl (by omega) (by omega) dL_law_277 dL_law_278 dL_law_279 dL_law_280 dL_law_281 ?_
  refine v_arg hC hS 2 (kw := 2) (by decide) rfl (by omega) (by omega) dL_law_282 dL_law_283 dL_law_284 dL_law_285 dL_law_286 ?_
  refine v_callVr (v := .int ((addP Y t (xs (i + 1)) (xs (i + 2))).1)) (C2 := CC Λ ((addX X t m (xs (i + 1)) (xs (i + 2))).2) ((addP Y t (xs (i + 1)) (xs (i + 2))).2)) (As := [.int (xs (i + 1)), .int (xs (i + 2))]) (rest := [.int ((addX X t m (xs (i + 1)) (xs (i + 2))).1)]) hC 2 204 (c_X5_add Λ ((addX X t m (xs (i + 1)) (xs (i + 2))).2) Y (s := (xs (i + 1))) (n := (xs (i + 2))) h.1.2.2.1 h.1.2.1 h.2.1.2 h.2.1.1.2.1) (nR_of (by decide)) (cc_204 Λ ((addX X t m (xs (i + 1)) (xs (i + 2))).2) Y) rfl gL_law_X5_add rfl rfl rfl hd_X5_add ⟨by decide, by decide⟩ rfl rfl (Nat.le_of_ble_eq_true rfl) dL_law_287 ?_
  refine v_icmp_eq (tgt := 966) hC dL_law_290 (by decide) (fun _ => ?_) (fun hne => absurd he hne)
  exact kk _ _ hR
theorem lc_remove (hC : Ok Λ room_1 cL_law wsL_law RL 4 κ) (hS : Scr Λ b L xs κ) (h : Rel X Y m t sn TL) (hi : i + 5 ≤ L) (hL : L ≤ 2560) (kk : ∀ (X2 : XS) (Y2 : YS), (∃ m t sn TL, Rel X2 Y2 m t sn TL) → V Λ κ (CC Λ X2 Y2) 966 (lwl Λ b i) []) : V Λ κ (CC Λ X Y) 295 (lwl Λ b i) [] := by
  obtain ⟨he, hR⟩ : Ok2 (remX X t m (xs (i + 1)) (xs (i + 2))) (remP Y t (xs (i + 1)) (xs (i + 2))) := a_rem h (xs (i + 1)) (xs (i + 2))
  refine v_aload_n hC dL_law_295 2 rfl ?_
  refine v_arg hC hS 1 (kw := 1) (by decide) rfl (by omega) (by omega) dL_law_296 dL_law_297 dL_law_298 dL_law_299 dL_law_300 ?_
  refine v_arg hC hS 2 (kw := 2) (by decide) rfl (by omega) (by omega) dL_law_301 dL_law_302 dL_law_303 dL_law_304 dL_law_305 ?_
  refine v_callVr (v := .int ((remX X t m (xs (i + 1)) (xs (i + 2))).1)) (C2 := CC Λ ((remX X t m (xs (i + 1)) (xs (i + 2))).2) Y) (As := [.int (xs (i + 1)), .int (xs (i + 2))]) (rest := []) hC 2 197 (c_X4_remove Λ X Y (s := (xs (i + 1))) (n := (xs (i + 2))) h.1.1 h.1.2.1 h.2.1.1.1 h.2.1.1.2.1 h.2.1.1.2.2.1.1) (nR_of (by decide)) (cc_197 Λ X Y) rfl gL_law_X4_remove rfl rfl rfl hd_X4_remove ⟨by decide, by decide⟩ rfl rfl (Nat.le_of_ble_eq_true rfl) dL_law_306 ?_
  refine v_aload_n hC dL_law_309 3 rfl ?_
  refine v_arg hC hS 1 (kw := 1) (by decide) rfl (by omega) (by omega) dL_law_310 dL_law_311 dL_law_312 dL_law_313 dL_law_314 ?_
  refine v_arg hC hS 2 (kw := 2) (by decide) rfl (by omega) (by omega) dL_law_315 dL_law_316 dL_law_317 dL_law_318 dL_law_319 ?_
  refine v_callVr (v := .int ((remP Y t (xs (i + 1)) (xs (i + 2))).1)) (C2 := CC Λ ((remX X t m (xs (i + 1)) (xs (i + 2))).2) ((remP Y t (xs (i + 1)) (xs (i + 2))).2)) (As := [.int (xs (i + 1)), .int (xs (i + 2))]) (rest := [.int ((remX X t m (xs (i + 1)) (xs (i + 2))).1)]) hC 2 204 (c_X5_remove Λ ((remX X t m (xs (i + 1)) (xs (i + 2))).2) Y (s := (xs (i + 1))) (n := (xs (i + 2))) h.1.2.2.1 h.1.2.1 h.2.1.2 h.2.1.1.2.1) (nR_of (by decide)) (cc_204 Λ ((remX X t m (xs (i + 1)) (xs (i + 2))).2) Y) rfl gL_law_X5_remove rfl rfl rfl hd_X5_remove ⟨by decide, by decide⟩ rfl rfl (Nat.le_of_ble_eq_true rfl) dL_law_320 ?_
  refine v_icmp_eq (tgt := 966) hC dL_law_323 (by decide) (fun _ => ?_) (fun hne => absurd he hne)
  exact kk _ _ hR
theorem lc_addRange (hC : Ok Λ room_1 cL_law wsL_law RL 4 κ) (hS : Scr Λ b L xs κ) (h : Rel X Y m t sn TL) (hi : i + 5 ≤ L) (hL : L ≤ 2560) (kk : ∀ (X2 : XS) (Y2 : YS), (∃ m t sn TL, Rel X2 Y2 m t sn TL) → V Λ κ (CC Λ X2 Y2) 966 (lwl Λ b i) []) : V Λ κ (CC Λ X Y) 328 (lwl Λ b i) [] := by
  obtain ⟨he, hR⟩ : Ok2 (mrX X t m (xs (i + 1)) (xs (i + 2)) (xs (i + 3)) true) (rngP Y t (xs (i + 1)) (xs (i + 2)) (xs (i + 3)) true) := a_mr h (xs (i + 1)) (xs (i + 2)) (xs (i + 3)) true
  refine v_aload_n hC dL_law_328 2 rfl ?_
  refine v_arg hC hS 1 (kw := 1) (by decide) rfl (by omega) (by omega) dL_law_329 dL_law_330 dL_law_331 dL_law_332 dL_law_333 ?_
  refine v_arg hC hS 2 (kw := 2) (by decide) rfl (by omega) (by omega) dL_law_334 dL_law_335 dL_law_336 dL_law_337 dL_law_338 ?_
  refine v_arg hC hS 3 (kw := 3) (by decide) rfl (by omega) (by omega) dL_law_339 dL_law_340 dL_law_341 dL_law_342 dL_law_343 ?_
  refine v_callVr (v := .int ((mrX X t m (xs (i + 1)) (xs (i + 2)) (xs (i + 3)) true).1)) (C2 := CC Λ ((mrX X t m (xs (i + 1)) (xs (i + 2)) (xs (i + 3)) true).2) Y) (As := [.int (xs (i + 1)), .int (xs (i + 2)), .int (xs (i + 3))]) (rest := []) hC 3 197 (c_X4_addRange Λ X Y (s := (xs (i + 1))) (u := (xs (i + 2))) (v := (xs (i + 3))) h.1.1 h.1.2.1 h.2.1.1.1 h.2.1.1.2.1 h.2.1.1.2.2.1.1) (nR_of (by decide)) (cc_197 Λ X Y) rfl gL_law_X4_addRange rfl rfl rfl hd_X4_addRange ⟨by decide, by decide⟩ rfl rfl (Nat.le_of_ble_eq_true rfl) dL_law_344 ?_
  refine v_aload_n hC dL_law_347 3 rfl ?_
  refine v_arg hC hS 1 (kw := 1) (by decide) rfl (by omega) (by omega) dL_law_348 dL_law_349 dL_law_350 dL_law_351 dL_law_352 ?_
  refine v_arg hC hS 2 (kw := 2) (by decide) rfl (by omega) (by omega) dL_law_353 dL_law_354 dL_law_355 dL_law_356 dL_law_357 ?_
  refine v_arg hC hS 3 (kw := 3) (by decide) rfl (by omega) (by omega) dL_law_358 dL_law_359 dL_law_360 dL_law_361 dL_law_362 ?_
  refine v_callVr (v := .int ((rngP Y t (xs (i + 1)) (xs (i + 2)) (xs (i + 3)) true).1)) (C2 := CC Λ ((mrX X t m (xs (i + 1)) (xs (i + 2)) (xs (i + 3)) true).2) ((rngP Y t (xs (i + 1)) (xs (i + 2)) (xs (i + 3)) true).2)) (As := [.int (xs (i + 1)), .int (xs (i + 2)), .int (xs (i + 3))]) (rest := [.int ((mrX X t m (xs (i + 1)) (xs (i + 2)) (xs (i + 3)) true).1)]) hC 3 204 (c_X5_addRange Λ ((mrX X t m (xs (i + 1)) (xs (i + 2)) (xs (i + 3)) true).2) Y (s := (xs (i + 1))) (lo := (xs (i + 2))) (hi := (xs (i + 3))) h.1.2.2.1 h.1.2.1 h.2.1.2 h.2.1.1.2.1) (nR_of (by decide)) (cc_204 Λ ((mrX X t m (xs (i + 1)) (xs (i + 2)) (xs (i + 3)) true).2) Y) rfl gL_law_X5_addRange rfl rfl rfl hd_X5_addRange ⟨by decide, by decide⟩ rfl rfl (Nat.le_of_ble_eq_true rfl) dL_law_363 ?_
  refine v_icmp_eq (tgt := 966) hC dL_law_366 (by decide) (fun _ => ?_) (fun hne => absurd he hne)
  exact kk _ _ hR
theorem lc_removeRange (hC : Ok Λ room_1 cL_law wsL_law RL 4 κ) (hS : Scr Λ b L xs κ) (h : Rel X Y m t sn TL) (hi : i + 5 ≤ L) (hL : L ≤ 2560) (kk : ∀ (X2 : XS) (Y2 : YS), (∃ m t sn TL, Rel X2 Y2 m t sn TL) → V Λ κ (CC Λ X2 Y2) 966 (lwl Λ b i) []) : V Λ κ (CC Λ X Y) 371 (lwl Λ b i) [] := by
  obtain ⟨he, hR⟩ : Ok2 (mrX X t m (xs (i + 1)) (xs (i + 2)) (xs (i + 3)) false) (rngP Y t (xs (i + 1)) (xs (i + 2)) (xs (i + 3)) false) := a_mr h (xs (i + 1)) (xs (i + 2)) (xs (i + 3)) false
  refine v_aload_n hC dL_law_371 2 rfl ?_
  refine v_arg hC hS 1 (kw := 1) (by decide) rfl (by omega) (by omega) dL_law_372 dL_law_373 dL_law_374 dL_law_375 dL_law_376 ?_
  refine v_arg hC hS 2 (kw := 2) (by decide) rfl (by omega) (by omega) dL_law_377 dL_law_378 dL_law_379 dL_law_380 dL_law_381 ?_
  refine v_arg hC hS 3 (kw := 3) (by decide) rfl (by omega) (by omega) dL_law_382 dL_law_383 dL_law_384 dL_law_385 dL_law_386 ?_
  refine v_callVr (v := .int ((mrX X t m (xs (i + 1)) (xs (i + 2)) (xs (i + 3)) false).1)) (C2 := CC Λ ((mrX X t m (xs (i + 1)) (xs (i + 2)) (xs (i + 3)) false).2) Y) (As := [.int (xs (i + 1)), .int (xs (i + 2)), .int (xs (i + 3))]) (rest := []) hC 3 197 (c_X4_removeRange Λ X Y (s := (xs (i + 1))) (u := (xs (i + 2))) (v := (xs (i + 3))) h.1.1 h.1.2.1 h.2.1.1.1 h.2.1.1.2.1 h.2.1.1.2.2.1.1) (nR_of (by decide)) (cc_197 Λ X Y) rfl gL_law_X4_removeRange rfl rfl rfl hd_X4_removeRange ⟨by decide, by decide⟩ rfl rfl (Nat.le_of_ble_eq_true rfl) dL_law_387 ?_
  refine v_aload_n hC dL_law_390 3 rfl ?_
  refine v_arg hC hS 1 (kw := 1) (by decide) rfl (by omega) (by omega) dL_law_391 dL_law_392 dL_law_393 dL_law_394 dL_law_395 ?_
  refine v_arg hC hS 2 (kw := 2) (by decide) rfl (by omega) (by omega) dL_law_396 dL_law_397 dL_law_398 dL_law_399 dL_law_400 ?_
  refine v_arg hC hS 3 (kw := 3) (by decide) rfl (by omega) (by omega) dL_law_401 dL_law_402 dL_law_403 dL_law_404 dL_law_405 ?_
  refine v_callVr (v := .int ((rngP Y t (xs (i + 1)) (xs (i + 2)) (xs (i + 3)) false).1)) (C2 := CC Λ ((mrX X t m (xs (i + 1)) (xs (i + 2)) (xs (i + 3)) false).2) ((rngP Y t (xs (i + 1)) (xs (i + 2)) (xs (i + 3)) false).2)) (As := [.int (xs (i + 1)), .int (xs (i + 2)), .int (xs (i + 3))]) (rest := [.int ((mrX X t m (xs (i + 1)) (xs (i + 2)) (xs (i + 3)) false).1)]) hC 3 204 (c_X5_removeRange Λ ((mrX X t m (xs (i + 1)) (xs (i + 2)) (xs (i + 3)) false).2) Y (s := (xs (i + 1))) (lo := (xs (i + 2))) (hi := (xs (i + 3))) h.1.2.2.1 h.1.2.1 h.2.1.2 h.2.1.1.2.1) (nR_of (by decide)) (cc_204 Λ ((mrX X t m (xs (i + 1)) (xs (i + 2)) (xs (i + 3)) false).2) Y) rfl gL_law_X5_removeRange rfl rfl rfl hd_X5_removeRange ⟨by decide, by decide⟩ rfl rfl (Nat.le_of_ble_eq_true rfl) dL_law_406 ?_
  refine v_icmp_eq (tgt := 966) hC dL_law_409 (by decide) (fun _ => ?_) (fun hne => absurd he hne)
  exact kk _ _ hR
theorem lc_combine (hC : Ok Λ room_1 cL_law wsL_law RL 4 κ) (hS : Scr Λ b L xs κ) (h : Rel X Y m t sn TL) (hi : i + 5 ≤ L) (hL : L ≤ 2560) (kk : ∀ (X2 : XS) (Y2 : YS), (∃ m t sn TL, Rel X2 Y2 m t sn TL) → V Λ κ (CC Λ X2 Y2) 966 (lwl Λ b i) []) : V Λ κ (CC Λ X Y) 414 (lwl Λ b i) [] := by
  obtain ⟨he, hR⟩ : Ok2 (cbX X t m (xs (i + 1)) (xs (i + 2)) (xs (i + 3)) (xs (i + 4))) (combP Y t (xs (i + 1)) (xs (i + 2)) (xs (i + 3)) (xs (i + 4))) := a_comb h (xs (i + 1)) (xs (i + 2)) (xs (i + 3)) (xs (i + 4))
  refine v_aload_n hC dL_law_414 2 rfl ?_
  refine v_arg hC hS 1 (kw := 1) (by decide) rfl (by omega) (by omega) dL_law_415 dL_law_416 dL_law_417 dL_law_418 dL_law_419 ?_
  refine v_arg hC hS 2 (kw := 2) (by decide) rfl (by omega) (by omega) dL_law_420 dL_law_421 dL_law_422 dL_law_423 dL_law_424 ?_
  refine v_arg hC hS 3 (kw := 3) (by decide) rfl (by omega) (by omega) dL_law_425 dL_law_426 dL_law_427 dL_law_428 dL_law_429 ?_
  refine v_arg hC hS 4 (kw := 4) (by decide) rfl (by omega) (by omega) dL_law_430 dL_law_431 dL_law_432 dL_law_433 dL_law_434 ?_
  refine v_callVr (v := .int ((cbX X t m (xs (i + 1)) (xs (i + 2)) (xs (i + 3)) (xs (i + 4))).1)) (C2 := CC Λ ((cbX X t m (xs (i + 1)) (xs (i + 2)) (xs (i + 3)) (xs (i + 4))).2) Y) (As := [.int (xs (i + 1)), .int (xs (i + 2)), .int (xs (i + 3)), .int (xs (i + 4))]) (rest := []) hC 4 197 (c_X4_combine Λ X Y (how := (xs (i + 1))) (s := (xs (i + 2))) (u := (xs (i + 3))) (v := (xs (i + 4))) h.1.1 h.1.2.1 h.2.1.1.1 h.2.1.1.2.1 h.2.1.1.2.2.1.1) (nR_of (by decide)) (cc_197 Λ X Y) rfl gL_law_X4_combine rfl rfl rfl hd_X4_combine ⟨by decide, by decide⟩ rfl rfl (Nat.le_of_ble_eq_true rfl) dL_law_435 ?_
  refine v_aload_n hC dL_law_438 3 rfl ?_
  refine v_arg hC hS 1 (kw := 1) (by decide) rfl (by omega) (by omega) dL_law_439 dL_law_440 dL_law_441 dL_law_442 dL_law_443 ?_
  refine v_arg hC hS 2 (kw := 2) (by decide) rfl (by omega) (by omega) dL_law_444 dL_law_445 dL_law_446 dL_law_447 dL_law_448 ?_
  refine v_arg hC hS 3 (kw := 3) (by decide) rfl (by omega) (by omega) dL_law_449 dL_law_450 dL_law_451 dL_law_452 dL_law_453 ?_
  refine v_arg hC hS 4 (kw := 4) (by decide) rfl (by omega) (by omega) dL_law_454 dL_law_455 dL_law_456 dL_law_457 dL_law_458 ?_
  refine v_callVr (v := .int ((combP Y t (xs (i + 1)) (xs (i + 2)) (xs (i + 3)) (xs (i + 4))).1)) (C2 := CC Λ ((cbX X t m (xs (i + 1)) (xs (i + 2)) (xs (i + 3)) (xs (i + 4))).2) ((combP Y t (xs (i + 1)) (xs (i + 2)) (xs (i + 3)) (xs (i + 4))).2)) (As := [.int (xs (i + 1)), .int (xs (i + 2)), .int (xs (i + 3)), .int (xs (i + 4))]) (rest := [.int ((cbX X t m (xs (i + 1)) (xs (i + 2)) (xs (i + 3)) (xs (i + 4))).1)]) hC 4 204 (c_X5_combine Λ ((cbX X t m (xs (i + 1)) (xs (i + 2)) (xs (i + 3)) (xs (i + 4))).2) Y (how := (xs (i + 1))) (t := (xs (i + 2))) (s := (xs (i + 3))) (o := (xs (i + 4))) h.1.2.2.1 h.1.2.1 h.2.1.2 h.2.1.1.2.1) (nR_of (by decide)) (cc_204 Λ ((cbX X t m (xs (i + 1)) (xs (i + 2)) (xs (i + 3)) (xs (i + 4))).2) Y) rfl gL_law_X5_combine rfl rfl rfl hd_X5_combine ⟨by decide, by decide⟩ rfl rfl (Nat.le_of_ble_eq_true rfl) dL_law_459 ?_
  refine v_icmp_eq (tgt := 966) hC dL_law_462 (by decide) (fun _ => ?_) (fun hne => absurd he hne)
  exact kk _ _ hR
theorem lc_type (hC : Ok Λ room_1 cL_law wsL_law RL 4 κ) (hS : Scr Λ b L xs κ) (h : Rel X Y m t sn TL) (hi : i + 5 ≤ L) (hL : L ≤ 2560) (kk : ∀ (X2 : XS) (Y2 : YS), (∃ m t sn TL, Rel X2 Y2 m t sn TL) → V Λ κ (CC Λ X2 Y2) 966 (lwl Λ b i) []) : V Λ κ (CC Λ X Y) 467 (lwl Λ b i) [] := by
  obtain ⟨he, hR⟩ : Ok2 (typX X TL (((xs (i + 1)).toUInt32 % 65536).toInt32)) (typeP Y TL (((xs (i + 1)).toUInt32 % 65536).toInt32)) := a_type h (nar_ch _)
  refine v_aload_n hC dL_law_467 2 rfl ?_
  refine v_arg hC hS 1 (kw := 1) (by decide) rfl (by omega) (by omega) dL_law_468 dL_law_469 dL_law_470 dL_law_471 dL_law_472 ?_
  refine v_i2c (v := (((xs (i + 1)).toUInt32 % 65536).toInt32)) hC dL_law_473 rfl ?_
  refine v_callVr (v := .int ((typX X TL (((xs (i + 1)).toUInt32 % 65536).toInt32)).1)) (C2 := CC Λ ((typX X TL (((xs (i + 1)).toUInt32 % 65536).toInt32)).2) Y) (As := [.int (((xs (i + 1)).toUInt32 % 65536).toInt32)]) (rest := []) hC 1 197 (c_X4_type Λ X Y (v := (((xs (i + 1)).toUInt32 % 65536).toInt32)) h.2.2.2.1.1 h.2.2.2.1.2.2.1) (nR_of (by decide)) (cc_197 Λ X Y) rfl gL_law_X4_type rfl rfl rfl hd_X4_type ⟨by decide, by decide⟩ rfl rfl (Nat.le_of_ble_eq_true rfl) dL_law_474 ?_
  refine v_aload_n hC dL_law_477 3 rfl ?_
  refine v_arg hC hS 1 (kw := 1) (by decide) rfl (by omega) (by omega) dL_law_478 dL_law_479 dL_law_480 dL_law_481 dL_law_482 ?_
  refine v_i2c (v := (((xs (i + 1)).toUInt32 % 65536).toInt32)) hC dL_law_483 rfl ?_
  refine v_callVr (v := .int ((typeP Y TL (((xs (i + 1)).toUInt32 % 65536).toInt32)).1)) (C2 := CC Λ ((typX X TL (((xs (i + 1)).toUInt32 % 65536).toInt32)).2) ((typeP Y TL (((xs (i + 1)).toUInt32 % 65536).toInt32)).2)) (As := [.int (((xs (i + 1)).toUInt32 % 65536).toInt32)]) (rest := [.int ((typX X TL (((xs (i + 1)).toUInt32 % 65536).toInt32)).1)]) hC 1 204 (c_X5_type Λ ((typX X TL (((xs (i + 1)).toUInt32 % 65536).toInt32)).2) Y (ch := (((xs (i + 1)).toUInt32 % 65536).toInt32)) h.2.2.2.1.2.1 h.2.2.2.1.2.2.1) (nR_of (by decide)) (cc_204 Λ ((typX X TL (((xs (i + 1)).toUInt32 % 65536).toInt32)).2) Y) rfl gL_law_X5_type rfl rfl rfl hd_X5_type ⟨by decide, by decide⟩ rfl rfl (Nat.le_of_ble_eq_true rfl) dL_law_484 ?_
  refine v_icmp_eq (tgt := 966) hC dL_law_487 (by decide) (fun _ => ?_) (fun hne => absurd he hne)
  exact kk _ _ hR
theorem lc_clearText (hC : Ok Λ room_1 cL_law wsL_law RL 4 κ) (hS : Scr Λ b L xs κ) (h : Rel X Y m t sn TL) (hi : i + 5 ≤ L) (hL : L ≤ 2560) (kk : ∀ (X2 : XS) (Y2 : YS), (∃ m t sn TL, Rel X2 Y2 m t sn TL) → V Λ κ (CC Λ X2 Y2) 966 (lwl Λ b i) []) : V Λ κ (CC Λ X Y) 492 (lwl Λ b i) [] := by
  obtain ⟨he, hR⟩ : Ok2 (((nI TL, xlS X 0) : Int32 × XS)) (((nI TL, yyS Y 0) : Int32 × YS)) := a_clear h
  refine v_aload_n hC dL_law_492 2 rfl ?_
  refine v_callVr (v := .int ((((nI TL, xlS X 0) : Int32 × XS)).1)) (C2 := CC Λ ((((nI TL, xlS X 0) : Int32 × XS)).2) Y) (As := []) (rest := []) hC 0 197 (c_X4_clearText Λ X Y  h.2.2.2.1.1 h.2.2.2.1.2.2.1) (nR_of (by decide)) (cc_197 Λ X Y) rfl gL_law_X4_clearText rfl rfl rfl hd_X4_clearText ⟨by decide, by decide⟩ rfl rfl (Nat.le_of_ble_eq_true rfl) dL_law_493 ?_
  refine v_aload_n hC dL_law_496 3 rfl ?_
  refine v_callVr (v := .int ((((nI TL, yyS Y 0) : Int32 × YS)).1)) (C2 := CC Λ ((((nI TL, xlS X 0) : Int32 × XS)).2) ((((nI TL, yyS Y 0) : Int32 × YS)).2)) (As := []) (rest := [.int ((((nI TL, xlS X 0) : Int32 × XS)).1)]) hC 0 204 (c_X5_clearText Λ ((((nI TL, xlS X 0) : Int32 × XS)).2) Y  h.2.2.2.1.2.1 h.2.2.2.1.2.2.1) (nR_of (by decide)) (cc_204 Λ ((((nI TL, xlS X 0) : Int32 × XS)).2) Y) rfl gL_law_X5_clearText rfl rfl rfl hd_X5_clearText ⟨by decide, by decide⟩ rfl rfl (Nat.le_of_ble_eq_true rfl) dL_law_497 ?_
  refine v_icmp_eq (tgt := 966) hC dL_law_500 (by decide) (fun _ => ?_) (fun hne => absurd he hne)
  exact kk _ _ hR
theorem lc_readRanges (hC : Ok Λ room_1 cL_law wsL_law RL 4 κ) (hS : Scr Λ b L xs κ) (h : Rel X Y m t sn TL) (hi : i + 5 ≤ L) (hL : L ≤ 2560) (kk : ∀ (X2 : XS) (Y2 : YS), (∃ m t sn TL, Rel X2 Y2 m t sn TL) → V Λ κ (CC Λ X2 Y2) 966 (lwl Λ b i) []) : V Λ κ (CC Λ X Y) 505 (lwl Λ b i) [] := by
  obtain ⟨he, hR⟩ : Ok2 (rrX X t m TL (xs (i + 1))) (rrP Y t TL (xs (i + 1))) := a_read h (xs (i + 1))
  refine v_aload_n hC dL_law_505 2 rfl ?_
  refine v_arg hC hS 1 (kw := 1) (by decide) rfl (by omega) (by omega) dL_law_506 dL_law_507 dL_law_508 dL_law_509 dL_law_510 ?_
  refine v_callVr (v := .int ((rrX X t m TL (xs (i + 1))).1)) (C2 := CC Λ ((rrX X t m TL (xs (i + 1))).2) Y) (As := [.int (xs (i + 1))]) (rest := []) hC 1 197 (c_X4_readRanges Λ X Y (s := (xs (i + 1))) h.1.1 h.1.2.1 h.2.1.1.1 h.2.1.1.2.1 h.2.1.1.2.2.1.1 h.2.2.2.1.1 h.2.2.2.1.2.2.1) (nR_of (by decide)) (cc_197 Λ X Y) rfl gL_law_X4_readRanges rfl rfl rfl hd_X4_readRanges ⟨by decide, by decide⟩ rfl rfl (Nat.le_of_ble_eq_true rfl) dL_law_511 ?_
  refine v_aload_n hC dL_law_514 3 rfl ?_
  refine v_arg hC hS 1 (kw := 1) (by decide) rfl (by omega) (by omega) dL_law_515 dL_law_516 dL_law_517 dL_law_518 dL_law_519 ?_
  refine v_callVr (v := .int ((rrP Y t TL (xs (i + 1))).1)) (C2 := CC Λ ((rrX X t m TL (xs (i + 1))).2) ((rrP Y t TL (xs (i + 1))).2)) (As := [.int (xs (i + 1))]) (rest := [.int ((rrX X t m TL (xs (i + 1))).1)]) hC 1 204 (c_X5_readRanges Λ ((rrX X t m TL (xs (i + 1))).2) Y (s := (xs (i + 1))) h.1.2.2.1 h.1.2.1 h.2.1.2 h.2.1.1.2.1 h.2.2.2.1.2.1 h.2.2.2.1.2.2.1) (nR_of (by decide)) (cc_204 Λ ((rrX X t m TL (xs (i + 1))).2) Y) rfl gL_law_X5_readRanges rfl rfl rfl hd_X5_readRanges ⟨by decide, by decide⟩ rfl rfl (Nat.le_of_ble_eq_true rfl) dL_law_520 ?_
  refine v_icmp_eq (tgt := 966) hC dL_law_523 (by decide) (fun _ => ?_) (fun hne => absurd he hne)
  exact kk _ _ hR
theorem lc_undo (hC : Ok Λ room_1 cL_law wsL_law RL 4 κ) (hS : Scr Λ b L xs κ) (h : Rel X Y m t sn TL) {u : Nat} (hu1 : u ≤ 6) (hu2 : xh X (2 + xq X (t - 1)) = nI u) (hi : i + 5 ≤ L) (hL : L ≤ 2560) (kk : ∀ (X2 : XS) (Y2 : YS), (∃ m t sn TL, Rel X2 Y2 m t sn TL) → V Λ κ (CC Λ X2 Y2) 966 (lwl Λ b i) []) : V Λ κ (CC Λ X Y) 528 (lwl Λ b i) [] := by
  obtain ⟨he, hR⟩ : Ok2 (unX X t u) (undoP Y t) := a_undo h hu1 hu2
  refine v_aload_n hC dL_law_528 2 rfl ?_
  refine v_callVr (v := .int ((unX X t u).1)) (C2 := CC Λ ((unX X t u).2) Y) (As := []) (rest := []) hC 0 197 (c_X4_undo Λ X Y  h.2.1.1.1 h.2.1.1.2.1 h.2.1.1.2.2.1.1 hu2 hu1) (nR_of (by decide)) (cc_197 Λ X Y) rfl gL_law_X4_undo rfl rfl rfl hd_X4_undo ⟨by decide, by decide⟩ rfl rfl (Nat.le_of_ble_eq_true rfl) dL_law_529 ?_
  refine v_aload_n hC dL_law_532 3 rfl ?_
  refine v_callVr (v := .int ((undoP Y t).1)) (C2 := CC Λ ((unX X t u).2) ((undoP Y t).2)) (As := []) (rest := [.int ((unX X t u).1)]) hC 0 204 (c_X5_undo Λ ((unX X t u).2) Y  h.2.1.2 h.2.1.1.2.1) (nR_of (by decide)) (cc_204 Λ ((unX X t u).2) Y) rfl gL_law_X5_undo rfl rfl rfl hd_X5_undo ⟨by decide, by decide⟩ rfl rfl (Nat.le_of_ble_eq_true rfl) dL_law_533 ?_
  refine v_icmp_eq (tgt := 966) hC dL_law_536 (by decide) (fun _ => ?_) (fun hne => absurd he hne)
  exact kk _ _ hR
theorem lc_keep (hC : Ok Λ room_1 cL_law wsL_law RL 4 κ) (hS : Scr Λ b L xs κ) (h : Rel X Y m t sn TL) (hi : i + 5 ≤ L) (hL : L ≤ 2560) (kk : ∀ (X2 : XS) (Y2 : YS), (∃ m t sn TL, Rel X2 Y2 m t sn TL) → V Λ κ (CC Λ X2 Y2) 966 (lwl Λ b i) []) : V Λ κ (CC Λ X Y) 541 (lwl Λ b i) [] := by
  obtain ⟨he, hR⟩ : Ok2 (kpX X m) (keepP Y) := a_keep h
  refine v_aload_n hC dL_law_541 2 rfl ?_
  refine v_callVr (v := .int ((kpX X m).1)) (C2 := CC Λ ((kpX X m).2) Y) (As := []) (rest := []) hC 0 197 (c_X4_keep Λ X Y  h.1.1 h.1.2.1) (nR_of (by decide)) (cc_197 Λ X Y) rfl gL_law_X4_keep rfl rfl rfl hd_X4_keep ⟨by decide, by decide⟩ rfl rfl (Nat.le_of_ble_eq_true rfl) dL_law_542 ?_
  refine v_aload_n hC dL_law_545 3 rfl ?_
  refine v_callVr (v := .int ((keepP Y).1)) (C2 := CC Λ ((kpX X m).2) ((keepP Y).2)) (As := []) (rest := [.int ((kpX X m).1)]) hC 0 204 (c_X5_keep Λ ((kpX X m).2) Y  ) (nR_of (by decide)) (cc_204 Λ ((kpX X m).2) Y) rfl gL_law_X5_keep rfl rfl rfl hd_X5_keep ⟨by decide, by decide⟩ rfl rfl (Nat.le_of_ble_eq_true rfl) dL_law_546 ?_
  refine v_icmp_eq (tgt := 966) hC dL_law_549 (by decide) (fun _ => ?_) (fun hne => absurd he hne)
  exact kk _ _ hR
theorem lc_restore (hC : Ok Λ room_1 cL_law wsL_law RL 4 κ) (hS : Scr Λ b L xs κ) (h : Rel X Y m t sn TL) {u : Nat} (hu1 : u ≤ 6) (hu2 : xh X 1 = nI u) (hi : i + 5 ≤ L) (hL : L ≤ 2560) (kk : ∀ (X2 : XS) (Y2 : YS), (∃ m t sn TL, Rel X2 Y2 m t sn TL) → V Λ κ (CC Λ X2 Y2) 966 (lwl Λ b i) []) : V Λ κ (CC Λ X Y) 554 (lwl Λ b i) [] := by
  obtain ⟨he, hR⟩ : Ok2 (rsX X t m u sn) (restP Y t) := a_rest h hu1 hu2
  refine v_aload_n hC dL_law_554 2 rfl ?_
  refine v_callVr (v := .int ((rsX X t m u sn).1)) (C2 := CC Λ ((rsX X t m u sn).2) Y) (As := []) (rest := []) hC 0 197 (c_X4_restore Λ X Y  h.1.1 h.1.2.1 h.2.1.1.1 h.2.1.1.2.1 h.2.1.1.2.2.1.1 h.2.2.1.1 hu2 hu1) (nR_of (by decide)) (cc_197 Λ X Y) rfl gL_law_X4_restore rfl rfl rfl hd_X4_restore ⟨by decide, by decide⟩ rfl rfl (Nat.le_of_ble_eq_true rfl) dL_law_555 ?_
  refine v_aload_n hC dL_law_558 3 rfl ?_
  refine v_callVr (v := .int ((restP Y t).1)) (C2 := CC Λ ((rsX X t m u sn).2) ((restP Y t).2)) (As := []) (rest := [.int ((rsX X t m u sn).1)]) hC 0 204 (c_X5_restore Λ ((rsX X t m u sn).2) Y  h.2.1.2 h.2.1.1.2.1) (nR_of (by decide)) (cc_204 Λ ((rsX X t m u sn).2) Y) rfl gL_law_X5_restore rfl rfl rfl hd_X5_restore ⟨by decide, by decide⟩ rfl rfl (Nat.le_of_ble_eq_true rfl) dL_law_559 ?_
  refine v_icmp_eq (tgt := 966) hC dL_law_562 (by decide) (fun _ => ?_) (fun hne => absurd he hne)
  exact kk _ _ hR
theorem lc_has (hC : Ok Λ room_1 cL_law wsL_law RL 4 κ) (hS : Scr Λ b L xs κ) (h : Rel X Y m t sn TL) (hi : i + 5 ≤ L) (hL : L ≤ 2560) (kk : ∀ (X2 : XS) (Y2 : YS), (∃ m t sn TL, Rel X2 Y2 m t sn TL) → V Λ κ (CC Λ X2 Y2) 966 (lwl Λ b i) []) : V Λ κ (CC Λ X Y) 567 (lwl Λ b i) [] := by
  have he : hasC X m (xs (i + 1)) (xs (i + 2)) = hasM (yn Y) (xs (i + 1)) (xs (i + 2)) := q_has h (xs (i + 1)) (xs (i + 2))
  have hR : ∃ m t sn TL, Rel X Y m t sn TL := ⟨m, t, sn, TL, h⟩
  refine v_aload_n hC dL_law_567 2 rfl ?_
  refine v_arg hC hS 1 (kw := 1) (by decide) rfl (by omega) (by omega) dL_law_568 dL_law_569 dL_law_570 dL_law_571 dL_law_572 ?_
  refine v_arg hC hS 2 (kw := 2) (by decide) rfl (by omega) (by omega) dL_law_573 dL_law_574 dL_law_575 dL_law_576 dL_law_577 ?_
  refine v_callVr (v := .int (hasC X m (xs (i + 1)) (xs (i + 2)))) (C2 := CC Λ (X) Y) (As := [.int (xs (i + 1)), .int (xs (i + 2))]) (rest := []) hC 2 197 (c_X4_has Λ X Y (s := (xs (i + 1))) (n := (xs (i + 2))) h.1.1 h.1.2.1) (nR_of (by decide)) (cc_197 Λ X Y) rfl gL_law_X4_has rfl rfl rfl hd_X4_has ⟨by decide, by decide⟩ rfl rfl (Nat.le_of_ble_eq_true rfl) dL_law_578 ?_
  refine v_aload_n hC dL_law_581 3 rfl ?_
  refine v_arg hC hS 1 (kw := 1) (by decide) rfl (by omega) (by omega) dL_law_582 dL_law_583 dL_law_584 dL_law_585 dL_law_586 ?_
  refine v_arg hC hS 2 (kw := 2) (by decide) rfl (by omega) (by omega) dL_law_587 dL_law_588 dL_law_589 dL_law_590 dL_law_591 ?_
  refine v_callVr (v := .int (hasM (yn Y) (xs (i + 1)) (xs (i + 2)))) (C2 := CC Λ (X) (Y)) (As := [.int (xs (i + 1)), .int (xs (i + 2))]) (rest := [.int (hasC X m (xs (i + 1)) (xs (i + 2)))]) hC 2 204 (c_X5_has Λ (X) Y (s := (xs (i + 1))) (n := (xs (i + 2))) h.1.2.2.1 h.1.2.1) (nR_of (by decide)) (cc_204 Λ (X) Y) rfl gL_law_X5_has rfl rfl rfl hd_X5_has ⟨by decide, by decide⟩ rfl rfl (Nat.le_of_ble_eq_true rfl) dL_law_592 ?_
  refine v_icmp_eq (tgt := 966) hC dL_law_595 (by decide) (fun _ => ?_) (fun hne => absurd he hne)
  exact kk _ _ hR
theorem lc_set (hC : Ok Λ room_1 cL_law wsL_law RL 4 κ) (hS : Scr Λ b L xs κ) (h : Rel X Y m t sn TL) (hi : i + 5 ≤ L) (hL : L ≤ 2560) (kk : ∀ (X2 : XS) (Y2 : YS), (∃ m t sn TL, Rel X2 Y2 m t sn TL) → V Λ κ (CC Λ X2 Y2) 966 (lwl Λ b i) []) : V Λ κ (CC Λ X Y) 600 (lwl Λ b i) [] := by
  have he : setC X m (xs (i + 1)) (xs (i + 2)) = setM (yn Y) (xs (i + 1)) (xs (i + 2)) := q_set h (xs (i + 1)) (xs (i + 2))
  have hR : ∃ m t sn TL, Rel X Y m t sn TL := ⟨m, t, sn, TL, h⟩
  refine v_aload_n hC dL_law_600 2 rfl ?_
  refine v_arg hC hS 1 (kw := 1) (by decide) rfl (by omega) (by omega) dL_law_601 dL_law_602 dL_law_603 dL_law_604 dL_law_605 ?_
  refine v_arg hC hS 2 (kw := 2) (by decide) rfl (by omega) (by omega) dL_law_606 dL_law_607 dL_law_608 dL_law_609 dL_law_610 ?_
  refine v_callVr (v := .int (setC X m (xs (i + 1)) (xs (i + 2)))) (C2 := CC Λ (X) Y) (As := [.int (xs (i + 1)), .int (xs (i + 2))]) (rest := []) hC 2 197 (c_X4_set Λ X Y (s := (xs (i + 1))) (v := (xs (i + 2))) h.1.1 h.1.2.1) (nR_of (by decide)) (cc_197 Λ X Y) rfl gL_law_X4_set rfl rfl rfl hd_X4_set ⟨by decide, by decide⟩ rfl rfl (Nat.le_of_ble_eq_true rfl) dL_law_611 ?_
  refine v_aload_n hC dL_law_614 3 rfl ?_
  refine v_arg hC hS 1 (kw := 1) (by decide) rfl (by omega) (by omega) dL_law_615 dL_law_616 dL_law_617 dL_law_618 dL_law_619 ?_
  refine v_arg hC hS 2 (kw := 2) (by decide) rfl (by omega) (by omega) dL_law_620 dL_law_621 dL_law_622 dL_law_623 dL_law_624 ?_
  refine v_callVr (v := .int (setM (yn Y) (xs (i + 1)) (xs (i + 2)))) (C2 := CC Λ (X) (Y)) (As := [.int (xs (i + 1)), .int (xs (i + 2))]) (rest := [.int (setC X m (xs (i + 1)) (xs (i + 2)))]) hC 2 204 (c_X5_set Λ (X) Y (s := (xs (i + 1))) (what := (xs (i + 2))) h.1.2.2.1 h.1.2.1) (nR_of (by decide)) (cc_204 Λ (X) Y) rfl gL_law_X5_set rfl rfl rfl hd_X5_set ⟨by decide, by decide⟩ rfl rfl (Nat.le_of_ble_eq_true rfl) dL_law_625 ?_
  refine v_icmp_eq (tgt := 966) hC dL_law_628 (by decide) (fun _ => ?_) (fun hne => absurd he hne)
  exact kk _ _ hR
theorem lc_boat (hC : Ok Λ room_1 cL_law wsL_law RL 4 κ) (hS : Scr Λ b L xs κ) (h : Rel X Y m t sn TL) (hi : i + 5 ≤ L) (hL : L ≤ 2560) (kk : ∀ (X2 : XS) (Y2 : YS), (∃ m t sn TL, Rel X2 Y2 m t sn TL) → V Λ κ (CC Λ X2 Y2) 966 (lwl Λ b i) []) : V Λ κ (CC Λ X Y) 633 (lwl Λ b i) [] := by
  have he : boatC X m (xs (i + 1)) (xs (i + 2)) (xs (i + 3)) = boatM (yn Y) (xs (i + 1)) (xs (i + 2)) (xs (i + 3)) := q_boat h (xs (i + 1)) (xs (i + 2)) (xs (i + 3))
  have hR : ∃ m t sn TL, Rel X Y m t sn TL := ⟨m, t, sn, TL, h⟩
  refine v_aload_n hC dL_law_633 2 rfl ?_
  refine v_arg hC hS 1 (kw := 1) (by decide) rfl (by omega) (by omega) dL_law_634 dL_law_635 dL_law_636 dL_law_637 dL_law_638 ?_
  refine v_arg hC hS 2 (kw := 2) (by decide) rfl (by omega) (by omega) dL_law_639 dL_law_640 dL_law_641 dL_law_642 dL_law_643 ?_
  refine v_arg hC hS 3 (kw := 3) (by decide) rfl (by omega) (by omega) dL_law_644 dL_law_645 dL_law_646 dL_law_647 dL_law_648 ?_
  refine v_callVr (v := .int (boatC X m (xs (i + 1)) (xs (i + 2)) (xs (i + 3)))) (C2 := CC Λ (X) Y) (As := [.int (xs (i + 1)), .int (xs (i + 2)), .int (xs (i + 3))]) (rest := []) hC 3 197 (c_X4_boat Λ X Y (s := (xs (i + 1))) (b := (xs (i + 2))) (v := (xs (i + 3))) h.1.1 h.1.2.1) (nR_of (by decide)) (cc_197 Λ X Y) rfl gL_law_X4_boat rfl rfl rfl hd_X4_boat ⟨by decide, by decide⟩ rfl rfl (Nat.le_of_ble_eq_true rfl) dL_law_649 ?_
  refine v_aload_n hC dL_law_652 3 rfl ?_
  refine v_arg hC hS 1 (kw := 1) (by decide) rfl (by omega) (by omega) dL_law_653 dL_law_654 dL_law_655 dL_law_656 dL_law_657 ?_
  refine v_arg hC hS 2 (kw := 2) (by decide) rfl (by omega) (by omega) dL_law_658 dL_law_659 dL_law_660 dL_law_661 dL_law_662 ?_
  refine v_arg hC hS 3 (kw := 3) (by decide) rfl (by omega) (by omega) dL_law_663 dL_law_664 dL_law_665 dL_law_666 dL_law_667 ?_
  refine v_callVr (v := .int (boatM (yn Y) (xs (i + 1)) (xs (i + 2)) (xs (i + 3)))) (C2 := CC Λ (X) (Y)) (As := [.int (xs (i + 1)), .int (xs (i + 2)), .int (xs (i + 3))]) (rest := [.int (boatC X m (xs (i + 1)) (xs (i + 2)) (xs (i + 3)))]) hC 3 204 (c_X5_boat Λ (X) Y (s := (xs (i + 1))) (b := (xs (i + 2))) (what := (xs (i + 3))) h.1.2.2.1 h.1.2.1) (nR_of (by decide)) (cc_204 Λ (X) Y) rfl gL_law_X5_boat rfl rfl rfl hd_X5_boat ⟨by decide, by decide⟩ rfl rfl (Nat.le_of_ble_eq_true rfl) dL_law_668 ?_
  refine v_icmp_eq (tgt := 966) hC dL_law_671 (by decide) (fun _ => ?_) (fun hne => absurd he hne)
  exact kk _ _ hR
theorem lc_rank (hC : Ok Λ room_1 cL_law wsL_law RL 4 κ) (hS : Scr Λ b L xs κ) (h : Rel X Y m t sn TL) (hi : i + 5 ≤ L) (hL : L ≤ 2560) (kk : ∀ (X2 : XS) (Y2 : YS), (∃ m t sn TL, Rel X2 Y2 m t sn TL) → V Λ κ (CC Λ X2 Y2) 966 (lwl Λ b i) []) : V Λ κ (CC Λ X Y) 676 (lwl Λ b i) [] := by
  have he : rankC X m (xs (i + 1)) (xs (i + 2)) = rankM (yn Y) (xs (i + 1)) (xs (i + 2)) := q_rank h (xs (i + 1)) (xs (i + 2))
  have hR : ∃ m t sn TL, Rel X Y m t sn TL := ⟨m, t, sn, TL, h⟩
  refine v_aload_n hC dL_law_676 2 rfl ?_
  refine v_arg hC hS 1 (kw := 1) (by decide) rfl (by omega) (by omega) dL_law_677 dL_law_678 dL_law_679 dL_law_680 dL_law_681 ?_
  refine v_arg hC hS 2 (kw := 2) (by decide) rfl (by omega) (by omega) dL_law_682 dL_law_683 dL_law_684 dL_law_685 dL_law_686 ?_
  refine v_callVr (v := .int (rankC X m (xs (i + 1)) (xs (i + 2)))) (C2 := CC Λ (X) Y) (As := [.int (xs (i + 1)), .int (xs (i + 2))]) (rest := []) hC 2 197 (c_X4_rank Λ X Y (s := (xs (i + 1))) (n := (xs (i + 2))) h.1.1 h.1.2.1) (nR_of (by decide)) (cc_197 Λ X Y) rfl gL_law_X4_rank rfl rfl rfl hd_X4_rank ⟨by decide, by decide⟩ rfl rfl (Nat.le_of_ble_eq_true rfl) dL_law_687 ?_
  refine v_aload_n hC dL_law_690 3 rfl ?_
  refine v_arg hC hS 1 (kw := 1) (by decide) rfl (by omega) (by omega) dL_law_691 dL_law_692 dL_law_693 dL_law_694 dL_law_695 ?_
  refine v_arg hC hS 2 (kw := 2) (by decide) rfl (by omega) (by omega) dL_law_696 dL_law_697 dL_law_698 dL_law_699 dL_law_700 ?_
  refine v_callVr (v := .int (rankM (yn Y) (xs (i + 1)) (xs (i + 2)))) (C2 := CC Λ (X) (Y)) (As := [.int (xs (i + 1)), .int (xs (i + 2))]) (rest := [.int (rankC X m (xs (i + 1)) (xs (i + 2)))]) hC 2 204 (c_X5_rank Λ (X) Y (s := (xs (i + 1))) (n := (xs (i + 2))) h.1.2.2.1 h.1.2.1) (nR_of (by decide)) (cc_204 Λ (X) Y) rfl gL_law_X5_rank rfl rfl rfl hd_X5_rank ⟨by decide, by decide⟩ rfl rfl (Nat.le_of_ble_eq_true rfl) dL_law_701 ?_
  refine v_icmp_eq (tgt := 966) hC dL_law_704 (by decide) (fun _ => ?_) (fun hne => absurd he hne)
  exact kk _ _ hR
theorem lc_at (hC : Ok Λ room_1 cL_law wsL_law RL 4 κ) (hS : Scr Λ b L xs κ) (h : Rel X Y m t sn TL) (hi : i + 5 ≤ L) (hL : L ≤ 2560) (kk : ∀ (X2 : XS) (Y2 : YS), (∃ m t sn TL, Rel X2 Y2 m t sn TL) → V Λ κ (CC Λ X2 Y2) 966 (lwl Λ b i) []) : V Λ κ (CC Λ X Y) 709 (lwl Λ b i) [] := by
  have he : placeC X m (xs (i + 1)) (xs (i + 2)) = atM (yn Y) (xs (i + 1)) (xs (i + 2)) := q_at h (xs (i + 1)) (xs (i + 2))
  have hR : ∃ m t sn TL, Rel X Y m t sn TL := ⟨m, t, sn, TL, h⟩
  refine v_aload_n hC dL_law_709 2 rfl ?_
  refine v_arg hC hS 1 (kw := 1) (by decide) rfl (by omega) (by omega) dL_law_710 dL_law_711 dL_law_712 dL_law_713 dL_law_714 ?_
  refine v_arg hC hS 2 (kw := 2) (by decide) rfl (by omega) (by omega) dL_law_715 dL_law_716 dL_law_717 dL_law_718 dL_law_719 ?_
  refine v_callVr (v := .int (placeC X m (xs (i + 1)) (xs (i + 2)))) (C2 := CC Λ (X) Y) (As := [.int (xs (i + 1)), .int (xs (i + 2))]) (rest := []) hC 2 197 (c_X4_at Λ X Y (s := (xs (i + 1))) (n := (xs (i + 2))) h.1.1 h.1.2.1) (nR_of (by decide)) (cc_197 Λ X Y) rfl gL_law_X4_at rfl rfl rfl hd_X4_at ⟨by decide, by decide⟩ rfl rfl (Nat.le_of_ble_eq_true rfl) dL_law_720 ?_
  refine v_aload_n hC dL_law_723 3 rfl ?_
  refine v_arg hC hS 1 (kw := 1) (by decide) rfl (by omega) (by omega) dL_law_724 dL_law_725 dL_law_726 dL_law_727 dL_law_728 ?_
  refine v_arg hC hS 2 (kw := 2) (by decide) rfl (by omega) (by omega) dL_law_729 dL_law_730 dL_law_731 dL_law_732 dL_law_733 ?_
  refine v_callVr (v := .int (atM (yn Y) (xs (i + 1)) (xs (i + 2)))) (C2 := CC Λ (X) (Y)) (As := [.int (xs (i + 1)), .int (xs (i + 2))]) (rest := [.int (placeC X m (xs (i + 1)) (xs (i + 2)))]) hC 2 204 (c_X5_at Λ (X) Y (s := (xs (i + 1))) (place := (xs (i + 2))) h.1.2.2.1 h.1.2.1) (nR_of (by decide)) (cc_204 Λ (X) Y) rfl gL_law_X5_at rfl rfl rfl hd_X5_at ⟨by decide, by decide⟩ rfl rfl (Nat.le_of_ble_eq_true rfl) dL_law_734 ?_
  refine v_icmp_eq (tgt := 966) hC dL_law_737 (by decide) (fun _ => ?_) (fun hne => absurd he hne)
  exact kk _ _ hR
theorem lc_next (hC : Ok Λ room_1 cL_law wsL_law RL 4 κ) (hS : Scr Λ b L xs κ) (h : Rel X Y m t sn TL) (hi : i + 5 ≤ L) (hL : L ≤ 2560) (kk : ∀ (X2 : XS) (Y2 : YS), (∃ m t sn TL, Rel X2 Y2 m t sn TL) → V Λ κ (CC Λ X2 Y2) 966 (lwl Λ b i) []) : V Λ κ (CC Λ X Y) 742 (lwl Λ b i) [] := by
  have he : nextC X m (xs (i + 1)) (xs (i + 2)) = nextM (yn Y) (xs (i + 1)) (xs (i + 2)) := q_next h (xs (i + 1)) (xs (i + 2))
  have hR : ∃ m t sn TL, Rel X Y m t sn TL := ⟨m, t, sn, TL, h⟩
  refine v_aload_n hC dL_law_742 2 rfl ?_
  refine v_arg hC hS 1 (kw := 1) (by decide) rfl (by omega) (by omega) dL_law_743 dL_law_744 dL_law_745 dL_law_746 dL_law_747 ?_
  refine v_arg hC hS 2 (kw := 2) (by decide) rfl (by omega) (by omega) dL_law_748 dL_law_749 dL_law_750 dL_law_751 dL_law_752 ?_
  refine v_callVr (v := .int (nextC X m (xs (i + 1)) (xs (i + 2)))) (C2 := CC Λ (X) Y) (As := [.int (xs (i + 1)), .int (xs (i + 2))]) (rest := []) hC 2 197 (c_X4_next Λ X Y (s := (xs (i + 1))) (n := (xs (i + 2))) h.1.1 h.1.2.1) (nR_of (by decide)) (cc_197 Λ X Y) rfl gL_law_X4_next rfl rfl rfl hd_X4_next ⟨by decide, by decide⟩ rfl rfl (Nat.le_of_ble_eq_true rfl) dL_law_753 ?_
  refine v_aload_n hC dL_law_756 3 rfl ?_
  refine v_arg hC hS 1 (kw := 1) (by decide) rfl (by omega) (by omega) dL_law_757 dL_law_758 dL_law_759 dL_law_760 dL_law_761 ?_
  refine v_arg hC hS 2 (kw := 2) (by decide) rfl (by omega) (by omega) dL_law_762 dL_law_763 dL_law_764 dL_law_765 dL_law_766 ?_
  refine v_callVr (v := .int (nextM (yn Y) (xs (i + 1)) (xs (i + 2)))) (C2 := CC Λ (X) (Y)) (As := [.int (xs (i + 1)), .int (xs (i + 2))]) (rest := [.int (nextC X m (xs (i + 1)) (xs (i + 2)))]) hC 2 204 (c_X5_next Λ (X) Y (s := (xs (i + 1))) (n := (xs (i + 2))) h.1.2.2.1 h.1.2.1) (nR_of (by decide)) (cc_204 Λ (X) Y) rfl gL_law_X5_next rfl rfl rfl hd_X5_next ⟨by decide, by decide⟩ rfl rfl (Nat.le_of_ble_eq_true rfl) dL_law_767 ?_
  refine v_icmp_eq (tgt := 966) hC dL_law_770 (by decide) (fun _ => ?_) (fun hne => absurd he hne)
  exact kk _ _ hR
theorem lc_nearest (hC : Ok Λ room_1 cL_law wsL_law RL 4 κ) (hS : Scr Λ b L xs κ) (h : Rel X Y m t sn TL) (hi : i + 5 ≤ L) (hL : L ≤ 2560) (kk : ∀ (X2 : XS) (Y2 : YS), (∃ m t sn TL, Rel X2 Y2 m t sn TL) → V Λ κ (CC Λ X2 Y2) 966 (lwl Λ b i) []) : V Λ κ (CC Λ X Y) 775 (lwl Λ b i) [] := by
  have he : nearC X m (xs (i + 1)) (xs (i + 2)) = nearM (yn Y) (xs (i + 1)) (xs (i + 2)) := q_near h (xs (i + 1)) (xs (i + 2))
  have hR : ∃ m t sn TL, Rel X Y m t sn TL := ⟨m, t, sn, TL, h⟩
  refine v_aload_n hC dL_law_775 2 rfl ?_
  refine v_arg hC hS 1 (kw := 1) (by decide) rfl (by omega) (by omega) dL_law_776 dL_law_777 dL_law_778 dL_law_779 dL_law_780 ?_
  refine v_arg hC hS 2 (kw := 2) (by decide) rfl (by omega) (by omega) dL_law_781 dL_law_782 dL_law_783 dL_law_784 dL_law_785 ?_
  refine v_callVr (v := .int (nearC X m (xs (i + 1)) (xs (i + 2)))) (C2 := CC Λ (X) Y) (As := [.int (xs (i + 1)), .int (xs (i + 2))]) (rest := []) hC 2 197 (c_X4_nearest Λ X Y (s := (xs (i + 1))) (n := (xs (i + 2))) h.1.1 h.1.2.1) (nR_of (by decide)) (cc_197 Λ X Y) rfl gL_law_X4_nearest rfl rfl rfl hd_X4_nearest ⟨by decide, by decide⟩ rfl rfl (Nat.le_of_ble_eq_true rfl) dL_law_786 ?_
  refine v_aload_n hC dL_law_789 3 rfl ?_
  refine v_arg hC hS 1 (kw := 1) (by decide) rfl (by omega) (by omega) dL_law_790 dL_law_791 dL_law_792 dL_law_793 dL_law_794 ?_
  refine v_arg hC hS 2 (kw := 2) (by decide) rfl (by omega) (by omega) dL_law_795 dL_law_796 dL_law_797 dL_law_798 dL_law_799 ?_
  refine v_callVr (v := .int (nearM (yn Y) (xs (i + 1)) (xs (i + 2)))) (C2 := CC Λ (X) (Y)) (As := [.int (xs (i + 1)), .int (xs (i + 2))]) (rest := [.int (nearC X m (xs (i + 1)) (xs (i + 2)))]) hC 2 204 (c_X5_nearest Λ (X) Y (s := (xs (i + 1))) (n := (xs (i + 2))) h.1.2.2.1 h.1.2.1) (nR_of (by decide)) (cc_204 Λ (X) Y) rfl gL_law_X5_nearest rfl rfl rfl hd_X5_nearest ⟨by decide, by decide⟩ rfl rfl (Nat.le_of_ble_eq_true rfl) dL_law_800 ?_
  refine v_icmp_eq (tgt := 966) hC dL_law_803 (by decide) (fun _ => ?_) (fun hne => absurd he hne)
  exact kk _ _ hR
theorem lc_gap (hC : Ok Λ room_1 cL_law wsL_law RL 4 κ) (hS : Scr Λ b L xs κ) (h : Rel X Y m t sn TL) (hi : i + 5 ≤ L) (hL : L ≤ 2560) (kk : ∀ (X2 : XS) (Y2 : YS), (∃ m t sn TL, Rel X2 Y2 m t sn TL) → V Λ κ (CC Λ X2 Y2) 966 (lwl Λ b i) []) : V Λ κ (CC Λ X Y) 808 (lwl Λ b i) [] := by
  have he : gapC X m (xs (i + 1)) (xs (i + 2)) = gapM (yn Y) (xs (i + 1)) (xs (i + 2)) := q_gap h (xs (i + 1)) (xs (i + 2))
  have hR : ∃ m t sn TL, Rel X Y m t sn TL := ⟨m, t, sn, TL, h⟩
  refine v_aload_n hC dL_law_808 2 rfl ?_
  refine v_arg hC hS 1 (kw := 1) (by decide) rfl (by omega) (by omega) dL_law_809 dL_law_810 dL_law_811 dL_law_812 dL_law_813 ?_
  refine v_arg hC hS 2 (kw := 2) (by decide) rfl (by omega) (by omega) dL_law_814 dL_law_815 dL_law_816 dL_law_817 dL_law_818 ?_
  refine v_callVr (v := .int (gapC X m (xs (i + 1)) (xs (i + 2)))) (C2 := CC Λ (X) Y) (As := [.int (xs (i + 1)), .int (xs (i + 2))]) (rest := []) hC 2 197 (c_X4_gap Λ X Y (s := (xs (i + 1))) (len := (xs (i + 2))) h.1.1 h.1.2.1) (nR_of (by decide)) (cc_197 Λ X Y) rfl gL_law_X4_gap rfl rfl rfl hd_X4_gap ⟨by decide, by decide⟩ rfl rfl (Nat.le_of_ble_eq_true rfl) dL_law_819 ?_
  refine v_aload_n hC dL_law_822 3 rfl ?_
  refine v_arg hC hS 1 (kw := 1) (by decide) rfl (by omega) (by omega) dL_law_823 dL_law_824 dL_law_825 dL_law_826 dL_law_827 ?_
  refine v_arg hC hS 2 (kw := 2) (by decide) rfl (by omega) (by omega) dL_law_828 dL_law_829 dL_law_830 dL_law_831 dL_law_832 ?_
  refine v_callVr (v := .int (gapM (yn Y) (xs (i + 1)) (xs (i + 2)))) (C2 := CC Λ (X) (Y)) (As := [.int (xs (i + 1)), .int (xs (i + 2))]) (rest := [.int (gapC X m (xs (i + 1)) (xs (i + 2)))]) hC 2 204 (c_X5_gap Λ (X) Y (s := (xs (i + 1))) (len := (xs (i + 2))) h.1.2.2.1 h.1.2.1) (nR_of (by decide)) (cc_204 Λ (X) Y) rfl gL_law_X5_gap rfl rfl rfl hd_X5_gap ⟨by decide, by decide⟩ rfl rfl (Nat.le_of_ble_eq_true rfl) dL_law_833 ?_
  refine v_icmp_eq (tgt := 966) hC dL_law_836 (by decide) (fun _ => ?_) (fun hne => absurd he hne)
  exact kk _ _ hR
theorem lc_sizeOf (hC : Ok Λ room_1 cL_law wsL_law RL 4 κ) (hS : Scr Λ b L xs κ) (h : Rel X Y m t sn TL) (hi : i + 5 ≤ L) (hL : L ≤ 2560) (kk : ∀ (X2 : XS) (Y2 : YS), (∃ m t sn TL, Rel X2 Y2 m t sn TL) → V Λ κ (CC Λ X2 Y2) 966 (lwl Λ b i) []) : V Λ κ (CC Λ X Y) 841 (lwl Λ b i) [] := by
  obtain ⟨he, hq⟩ := q_size h (xs (i + 1)) (xs (i + 2)) (xs (i + 3))
  have hR : ∃ m t sn TL, Rel X ((sizeP Y (xs (i + 1)) (xs (i + 2)) (xs (i + 3))).2) m t sn TL := ⟨m, t, sn, TL, hq⟩
  refine v_aload_n hC dL_law_841 2 rfl ?_
  refine v_arg hC hS 1 (kw := 1) (by decide) rfl (by omega) (by omega) dL_law_842 dL_law_843 dL_law_844 dL_law_845 dL_law_846 ?_
  refine v_arg hC hS 2 (kw := 2) (by decide) rfl (by omega) (by omega) dL_law_847 dL_law_848 dL_law_849 dL_law_850 dL_law_851 ?_
  refine v_arg hC hS 3 (kw := 3) (by decide) rfl (by omega) (by omega) dL_law_852 dL_law_853 dL_law_854 dL_law_855 dL_law_856 ?_
  refine v_callVr (v := .int (sizeC X m (xs (i + 1)) (xs (i + 2)) (xs (i + 3)))) (C2 := CC Λ (X) Y) (As := [.int (xs (i + 1)), .int (xs (i + 2)), .int (xs (i + 3))]) (rest := []) hC 3 197 (c_X4_sizeOf Λ X Y (how := (xs (i + 1))) (s := (xs (i + 2))) (o := (xs (i + 3))) h.1.1 h.1.2.1) (nR_of (by decide)) (cc_197 Λ X Y) rfl gL_law_X4_sizeOf rfl rfl rfl hd_X4_sizeOf ⟨by decide, by decide⟩ rfl rfl (Nat.le_of_ble_eq_true rfl) dL_law_857 ?_
  refine v_aload_n hC dL_law_860 3 rfl ?_
  refine v_arg hC hS 1 (kw := 1) (by decide) rfl (by omega) (by omega) dL_law_861 dL_law_862 dL_law_863 dL_law_864 dL_law_865 ?_
  refine v_arg hC hS 2 (kw := 2) (by decide) rfl (by omega) (by omega) dL_law_866 dL_law_867 dL_law_868 dL_law_869 dL_law_870 ?_
  refine v_arg hC hS 3 (kw := 3) (by decide) rfl (by omega) (by omega) dL_law_871 dL_law_872 dL_law_873 dL_law_874 dL_law_875 ?_
  refine v_callVr (v := .int ((sizeP Y (xs (i + 1)) (xs (i + 2)) (xs (i + 3))).1)) (C2 := CC Λ (X) ((sizeP Y (xs (i + 1)) (xs (i + 2)) (xs (i + 3))).2)) (As := [.int (xs (i + 1)), .int (xs (i + 2)), .int (xs (i + 3))]) (rest := [.int (sizeC X m (xs (i + 1)) (xs (i + 2)) (xs (i + 3)))]) hC 3 204 (c_X5_sizeOf Λ (X) Y (how := (xs (i + 1))) (s := (xs (i + 2))) (o := (xs (i + 3))) h.1.2.2.1 h.1.2.1) (nR_of (by decide)) (cc_204 Λ (X) Y) rfl gL_law_X5_sizeOf rfl rfl rfl hd_X5_sizeOf ⟨by decide, by decide⟩ rfl rfl (Nat.le_of_ble_eq_true rfl) dL_law_876 ?_
  refine v_icmp_eq (tgt := 966) hC dL_law_879 (by decide) (fun _ => ?_) (fun hne => absurd he hne)
  exact kk _ _ hR
theorem lc_ofAll (hC : Ok Λ room_1 cL_law wsL_law RL 4 κ) (hS : Scr Λ b L xs κ) (h : Rel X Y m t sn TL) (hi : i + 5 ≤ L) (hL : L ≤ 2560) (kk : ∀ (X2 : XS) (Y2 : YS), (∃ m t sn TL, Rel X2 Y2 m t sn TL) → V Λ κ (CC Λ X2 Y2) 966 (lwl Λ b i) []) : V Λ κ (CC Λ X Y) 884 (lwl Λ b i) [] := by
  have he : allC X m (xs (i + 1)) = ofAllM (yn Y) m (xs (i + 1)) := q_all h (xs (i + 1))
  have hR : ∃ m t sn TL, Rel X Y m t sn TL := ⟨m, t, sn, TL, h⟩
  refine v_aload_n hC dL_law_884 2 rfl ?_
  refine v_arg hC hS 1 (kw := 1) (by decide) rfl (by omega) (by omega) dL_law_885 dL_law_886 dL_law_887 dL_law_888 dL_law_889 ?_
  refine v_callVr (v := .int (allC X m (xs (i + 1)))) (C2 := CC Λ (X) Y) (As := [.int (xs (i + 1))]) (rest := []) hC 1 197 (c_X4_ofAll Λ X Y (p := (xs (i + 1))) h.1.1 h.1.2.1) (nR_of (by decide)) (cc_197 Λ X Y) rfl gL_law_X4_ofAll rfl rfl rfl hd_X4_ofAll ⟨by decide, by decide⟩ rfl rfl (Nat.le_of_ble_eq_true rfl) dL_law_890 ?_
  refine v_aload_n hC dL_law_893 3 rfl ?_
  refine v_arg hC hS 1 (kw := 1) (by decide) rfl (by omega) (by omega) dL_law_894 dL_law_895 dL_law_896 dL_law_897 dL_law_898 ?_
  refine v_callVr (v := .int (ofAllM (yn Y) m (xs (i + 1)))) (C2 := CC Λ (X) (Y)) (As := [.int (xs (i + 1))]) (rest := [.int (allC X m (xs (i + 1)))]) hC 1 204 (c_X5_ofAll Λ (X) Y (place := (xs (i + 1))) h.1.2.2.1 h.1.2.1) (nR_of (by decide)) (cc_204 Λ (X) Y) rfl gL_law_X5_ofAll rfl rfl rfl hd_X5_ofAll ⟨by decide, by decide⟩ rfl rfl (Nat.le_of_ble_eq_true rfl) dL_law_899 ?_
  refine v_icmp_eq (tgt := 966) hC dL_law_902 (by decide) (fun _ => ?_) (fun hne => absurd he hne)
  exact kk _ _ hR
theorem lc_most (hC : Ok Λ room_1 cL_law wsL_law RL 4 κ) (hS : Scr Λ b L xs κ) (h : Rel X Y m t sn TL) (hi : i + 5 ≤ L) (hL : L ≤ 2560) (kk : ∀ (X2 : XS) (Y2 : YS), (∃ m t sn TL, Rel X2 Y2 m t sn TL) → V Λ κ (CC Λ X2 Y2) 966 (lwl Λ b i) []) : V Λ κ (CC Λ X Y) 907 (lwl Λ b i) [] := by
  have he : mhO (hF X 0) m 32 0 (-5) 0 = (mostN (swN (yn Y) m) 2048).1 := q_most h
  have hR : ∃ m t sn TL, Rel X Y m t sn TL := ⟨m, t, sn, TL, h⟩
  refine v_aload_n hC dL_law_907 2 rfl ?_
  refine v_callVr (v := .int (mhO (hF X 0) m 32 0 (-5) 0)) (C2 := CC Λ (X) Y) (As := []) (rest := []) hC 0 197 (c_X4_most Λ X Y  h.1.1 h.1.2.1) (nR_of (by decide)) (cc_197 Λ X Y) rfl gL_law_X4_most rfl rfl rfl hd_X4_most ⟨by decide, by decide⟩ rfl rfl (Nat.le_of_ble_eq_true rfl) dL_law_908 ?_
  refine v_aload_n hC dL_law_911 3 rfl ?_
  refine v_callVr (v := .int ((mostN (swN (yn Y) m) 2048).1)) (C2 := CC Λ (X) (Y)) (As := []) (rest := [.int (mhO (hF X 0) m 32 0 (-5) 0)]) hC 0 204 (c_X5_most Λ (X) Y  h.1.2.2.1 h.1.2.1) (nR_of (by decide)) (cc_204 Λ (X) Y) rfl gL_law_X5_most rfl rfl rfl hd_X5_most ⟨by decide, by decide⟩ rfl rfl (Nat.le_of_ble_eq_true rfl) dL_law_912 ?_
  refine v_icmp_eq (tgt := 966) hC dL_law_915 (by decide) (fun _ => ?_) (fun hne => absurd he hne)
  exact kk _ _ hR
theorem lc_tollToDock (hC : Ok Λ room_1 cL_law wsL_law RL 4 κ) (hS : Scr Λ b L xs κ) (h : Rel X Y m t sn TL) (hi : i + 5 ≤ L) (hL : L ≤ 2560) (kk : ∀ (X2 : XS) (Y2 : YS), (∃ m t sn TL, Rel X2 Y2 m t sn TL) → V Λ κ (CC Λ X2 Y2) 966 (lwl Λ b i) []) : V Λ κ (CC Λ X Y) 920 (lwl Λ b i) [] := by
  obtain ⟨he, hR⟩ : Ok2 (tollX X m (xs (i + 1))) (tollP Y (xs (i + 1))) := a_toll h (xs (i + 1))
  refine v_aload_n hC dL_law_920 2 rfl ?_
  refine v_arg hC hS 1 (kw := 1) (by decide) rfl (by omega) (by omega) dL_law_921 dL_law_922 dL_law_923 dL_law_924 dL_law_925 ?_
  refine v_callVr (v := .int ((tollX X m (xs (i + 1))).1)) (C2 := CC Λ ((tollX X m (xs (i + 1))).2) Y) (As := [.int (xs (i + 1))]) (rest := []) hC 1 197 (c_X4_tollToDock Λ X Y (s := (xs (i + 1))) h.1.1 h.1.2.1) (nR_of (by decide)) (cc_197 Λ X Y) rfl gL_law_X4_tollToDock rfl rfl rfl hd_X4_tollToDock ⟨by decide, by decide⟩ rfl rfl (Nat.le_of_ble_eq_true rfl) dL_law_926 ?_
  refine v_aload_n hC dL_law_929 3 rfl ?_
  refine v_arg hC hS 1 (kw := 1) (by decide) rfl (by omega) (by omega) dL_law_930 dL_law_931 dL_law_932 dL_law_933 dL_law_934 ?_
  refine v_callVr (v := .int ((tollP Y (xs (i + 1))).1)) (C2 := CC Λ ((tollX X m (xs (i + 1))).2) ((tollP Y (xs (i + 1))).2)) (As := [.int (xs (i + 1))]) (rest := [.int ((tollX X m (xs (i + 1))).1)]) hC 1 204 (c_X5_tollToDock Λ ((tollX X m (xs (i + 1))).2) Y (s := (xs (i + 1))) h.1.2.2.1 h.1.2.1) (nR_of (by decide)) (cc_204 Λ ((tollX X m (xs (i + 1))).2) Y) rfl gL_law_X5_tollToDock rfl rfl rfl hd_X5_tollToDock ⟨by decide, by decide⟩ rfl rfl (Nat.le_of_ble_eq_true rfl) dL_law_935 ?_
  refine v_icmp_eq (tgt := 966) hC dL_law_938 (by decide) (fun _ => ?_) (fun hne => absurd he hne)
  exact kk _ _ hR
theorem lc_count (hC : Ok Λ room_1 cL_law wsL_law RL 4 κ) (hS : Scr Λ b L xs κ) (h : Rel X Y m t sn TL) (hi : i + 5 ≤ L) (hL : L ≤ 2560) (kk : ∀ (X2 : XS) (Y2 : YS), (∃ m t sn TL, Rel X2 Y2 m t sn TL) → V Λ κ (CC Λ X2 Y2) 966 (lwl Λ b i) []) : V Λ κ (CC Λ X Y) 943 (lwl Λ b i) [] := by
  have he : cntC X m t TL (xs (i + 1)) = countM Y m (xs (i + 1)) := q_count h (xs (i + 1))
  have hR : ∃ m t sn TL, Rel X Y m t sn TL := ⟨m, t, sn, TL, h⟩
  refine v_aload_n hC dL_law_943 2 rfl ?_
  refine v_arg hC hS 1 (kw := 1) (by decide) rfl (by omega) (by omega) dL_law_944 dL_law_945 dL_law_946 dL_law_947 dL_law_948 ?_
  refine v_callVr (v := .int (cntC X m t TL (xs (i + 1)))) (C2 := CC Λ (X) Y) (As := [.int (xs (i + 1))]) (rest := []) hC 1 197 (c_X4_count Λ X Y (v := (xs (i + 1))) h.1.1 h.1.2.1 h.2.1.1.1 h.2.1.1.2.1 h.2.2.2.1.1 h.2.2.2.1.2.2.1) (nR_of (by decide)) (cc_197 Λ X Y) rfl gL_law_X4_count rfl rfl rfl hd_X4_count ⟨by decide, by decide⟩ rfl rfl (Nat.le_of_ble_eq_true rfl) dL_law_949 ?_
  refine v_aload_n hC dL_law_952 3 rfl ?_
  refine v_arg hC hS 1 (kw := 1) (by decide) rfl (by omega) (by omega) dL_law_953 dL_law_954 dL_law_955 dL_law_956 dL_law_957 ?_
  refine v_callVr (v := .int (countM Y m (xs (i + 1)))) (C2 := CC Λ (X) (Y)) (As := [.int (xs (i + 1))]) (rest := [.int (cntC X m t TL (xs (i + 1)))]) hC 1 204 (c_X5_count Λ (X) Y (what := (xs (i + 1))) h.1.2.2.1 h.1.2.1) (nR_of (by decide)) (cc_204 Λ (X) Y) rfl gL_law_X5_count rfl rfl rfl hd_X5_count ⟨by decide, by decide⟩ rfl rfl (Nat.le_of_ble_eq_true rfl) dL_law_958 ?_
  refine v_icmp_eq (tgt := 966) hC dL_law_961 (by decide) (fun _ => ?_) (fun hne => absurd he hne)
  exact kk _ _ hR
end LCALLS
