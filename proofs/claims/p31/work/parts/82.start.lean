/-! The cells that the constructors made, by their roles; the relation at the start -/
def fr0 : FR := (fun _ => 0, fun _ => 0, fun _ => 0, fun _ => 0, 0, 0, false)
def x0S : XS := (fun _ => fr0, fun _ => 0, fun j => j % 4, 0, 0, fun _ => 0, fun _ => 0, fun _ => 0, 0, 0)
def y0S : YS := fun _ => 0
def hqF (u : SB) (h : Nat) : Nat := if h = 0 then u.1.1 else if h = 1 then u.2.1.1 else u.2.2.1.2.2.1 (h - 2)
def huF (u : SB) (h : Nat) : SH := if h = 0 then u.1.2 else if h = 1 then u.2.1.2 else u.2.2.1.2.2.2 (h - 2)
/-- the address of a role -/
def zaF (x : Nat) (u : SB) (mo : Nat) : Nat → Nat := fun r =>
  if r < 180 then (if r % 5 = 0 then (huF u (r / 30)).2.1 (r / 5 % 6) else (huF u (r / 30)).2.2 (r / 5 % 6) (r % 5 - 1))
  else if r < 185 then (if r = 180 then u.2.2.2.2.1 else u.2.2.2.2.2 (r - 181))
  else if r < 197 then (if r % 2 = 1 then hqF u ((r - 185) / 2) else (huF u ((r - 185) / 2)).1)
  else if r = 197 then x else if r = 198 then u.2.2.1.1 else if r = 199 then u.2.2.1.2.1
  else if r = 200 then u.2.2.2.1.1 else if r < 204 then u.2.2.2.1.2 (r - 201) else mo
section START
variable {x : Nat} {u : SB} {mo : Nat} {l : Launch} {D : va_G} {cy : Nat → ClassId} {A : Nat → Prop}
theorem za_f0 {h j : Nat} (hh : h < 6) (hj : j < 6) : zaF x u mo (5 * (6 * h + j)) = (huF u h).2.1 j := by
  unfold zaF
  rw [if_pos (by omega), if_pos (by omega), show 5 * (6 * h + j) / 30 = h by omega, show 5 * (6 * h + j) / 5 % 6 = j by omega]
theorem za_fc {h j c : Nat} (hh : h < 6) (hj : j < 6) (hc : c < 4) : zaF x u mo (5 * (6 * h + j) + (c + 1)) = (huF u h).2.2 j c := by
  unfold zaF
  rw [if_pos (by omega), if_neg (by omega), show (5 * (6 * h + j) + (c + 1)) / 30 = h by omega, show (5 * (6 * h + j) + (c + 1)) / 5 % 6 = j by omega, show (5 * (6 * h + j) + (c + 1)) % 5 - 1 = c by omega]
theorem za_h {h : Nat} (hh : h < 6) : zaF x u mo (185 + 2 * h) = hqF u h := by
  unfold zaF
  rw [if_neg (by omega), if_neg (by omega), if_pos (by omega), if_pos (by omega), show (185 + 2 * h - 185) / 2 = h by omega]
theorem za_hr {h : Nat} (hh : h < 6) : zaF x u mo (186 + 2 * h) = (huF u h).1 := by
  unfold zaF
  rw [if_neg (by omega), if_neg (by omega), if_pos (by omega), if_neg (by omega), show (186 + 2 * h - 185) / 2 = h by omega]
/-- the cells as they were made: the rows of references as their loops left them -/
def zCw (Λ : Lk) (u : SB) : Mem := fun r => if 186 ≤ r ∧ r < 197 ∧ r % 2 = 0 then .inl (Λ.2.2.2.1 3, 6, .inr (.inr (.inr (.inr (rwF (huF u ((r - 186) / 2)).2.1 6))))) else if r = 199 then .inl (Λ.2.2.2.1 4, 4, .inr (.inr (.inr (.inr (rwF u.2.2.1.2.2.1 4))))) else CC Λ x0S y0S r
def zNn (Λ : Lk) (u : SB) (r : Nat) : Nat × va_E := (Λ.2.1 r, zCw Λ u r)
theorem zcw_o {Λ : Lk} {r : Nat} (h : ¬ (186 ≤ r ∧ r < 197 ∧ r % 2 = 0)) (h2 : r ≠ 199) : zCw Λ u r = CC Λ x0S y0S r := by
  unfold zCw
  rw [if_neg h, if_neg h2]
def rlF5 (i : Nat) : List Nat := [5 * i, 5 * i + 1, 5 * i + 2, 5 * i + 3, 5 * i + 4]
def rlH (h : Nat) : List Nat := (185 + 2 * h) :: (186 + 2 * h) :: (rlF5 (6 * h + 5) ++ (rlF5 (6 * h + 4) ++ (rlF5 (6 * h + 3) ++ (rlF5 (6 * h + 2) ++ (rlF5 (6 * h + 1) ++ (rlF5 (6 * h + 0) ++ []))))))
def rlAll : List Nat := ((197 :: (rlF5 36 ++ ([200, 201, 202, 203] ++ ((198 :: 199 :: (rlH 5 ++ (rlH 4 ++ (rlH 3 ++ (rlH 2 ++ []))))) ++ (rlH 1 ++ (rlH 0 ++ [])))))) ++ []) ++ [204]
theorem rl_perm : rlAll.Perm (List.range 205) := by decide +kernel
abbrev Λ0 (l : Launch) (D : va_G) (cy : Nat → ClassId) (A : Nat → Prop) (x : Nat) (u : SB) (mo : Nat) : Lk := (l, zaF x u mo, D, cy, A)
theorem znn_f {h j : Nat} (hh : h < 6) (hj : j < 6) : zfW cy ((huF u h).2.1 j) ((huF u h).2.2 j) = (rlF5 (6 * h + j)).map (zNn (Λ0 l D cy A x u mo) u) := by
  have a0 : zaF x u mo (5 * (6 * h + j)) = (huF u h).2.1 j := za_f0 hh hj
  have a1 : zaF x u mo (5 * (6 * h + j) + 1) = (huF u h).2.2 j 0 := za_fc (c := 0) hh hj (by omega)
  have a2 : zaF x u mo (5 * (6 * h + j) + 2) = (huF u h).2.2 j 1 := za_fc (c := 1) hh hj (by omega)
  have a3 : zaF x u mo (5 * (6 * h + j) + 3) = (huF u h).2.2 j 2 := za_fc (c := 2) hh hj (by omega)
  have a4 : zaF x u mo (5 * (6 * h + j) + 4) = (huF u h).2.2 j 3 := za_fc (c := 3) hh hj (by omega)
  have hi : 6 * h + j < 37 := by omega
  have k0 := cc_f0 (Λ0 l D cy A x u mo) (X := x0S) y0S hi rfl
  have k1 := cc_f1 (Λ0 l D cy A x u mo) (X := x0S) y0S hi rfl
  have k2 := cc_f2 (Λ0 l D cy A x u mo) (X := x0S) y0S hi rfl
  have k3 := cc_f3 (Λ0 l D cy A x u mo) (X := x0S) y0S hi rfl
  have k4 := cc_f4 (Λ0 l D cy A x u mo) (X := x0S) y0S hi rfl
  show _ = [zNn _ u (5 * (6 * h + j)), zNn _ u (5 * (6 * h + j) + 1), zNn _ u (5 * (6 * h + j) + 2), zNn _ u (5 * (6 * h + j) + 3), zNn _ u (5 * (6 * h + j) + 4)]
  unfold zNn
  rw [zcw_o (by omega) (by omega), zcw_o (by omega) (by omega), zcw_o (by omega) (by omega), zcw_o (by omega) (by omega), zcw_o (by omega) (by omega), k0, k1, k2, k3, k4]
  unfold zfW
  rw [← a0, ← a1, ← a2, ← a3, ← a4]
  rfl
theorem znn_fs {h : Nat} (hh : h < 6) : bLs (zfW cy) (huF u h).2.1 (huF u h).2.2 6 = (rlF5 (6 * h + 5) ++ (rlF5 (6 * h + 4) ++ (rlF5 (6 * h + 3) ++ (rlF5 (6 * h + 2) ++ (rlF5 (6 * h + 1) ++ (rlF5 (6 * h + 0) ++ [])))))).map (zNn (Λ0 l D cy A x u mo) u) := by
  have e : ∀ j, j < 6 → zfW cy ((huF u h).2.1 j) ((huF u h).2.2 j) = (rlF5 (6 * h + j)).map (zNn (Λ0 l D cy A x u mo) u) := fun j hj => znn_f hh hj
  simp only [bLs, e 0 (by omega), e 1 (by omega), e 2 (by omega), e 3 (by omega), e 4 (by omega), e 5 (by omega), List.map_append, List.map_nil]
theorem znn_h {h : Nat} (hh : h < 6) : zhW cy (hqF u h) (huF u h) = (rlH h).map (zNn (Λ0 l D cy A x u mo) u) := by
  have c1 : zNn (Λ0 l D cy A x u mo) u (185 + 2 * h) = (hqF u h, .inr (1, [.ref (huF u h).1, .int 0])) := by
    unfold zNn
    rw [zcw_o (by omega) (by omega), cc_h _ _ _ hh]
    show (zaF x u mo (185 + 2 * h), Sum.inr (1, [Value.ref (zaF x u mo (186 + 2 * h)), Value.int 0])) = _
    rw [za_h hh, za_hr hh]
  have c2 : zNn (Λ0 l D cy A x u mo) u (186 + 2 * h) = ((huF u h).1, .inl (cy 3, 6, .inr (.inr (.inr (.inr (rwF (huF u h).2.1 6)))))) := by
    unfold zNn zCw
    rw [if_pos (by omega), show (186 + 2 * h - 186) / 2 = h by omega]
    show (zaF x u mo (186 + 2 * h), _) = _
    rw [za_hr hh]
  show (hqF u h, _) :: ((huF u h).1, _) :: bLs (zfW cy) (huF u h).2.1 (huF u h).2.2 6 = zNn _ u (185 + 2 * h) :: zNn _ u (186 + 2 * h) :: List.map _ _
  rw [znn_fs (x := x) (mo := mo) (l := l) (D := D) (A := A) hh, c1, c2]
theorem znn_36 : zfW cy u.2.2.2.2.1 u.2.2.2.2.2 = (rlF5 36).map (zNn (Λ0 l D cy A x u mo) u) := by
  have k0 := cc_f0 (Λ0 l D cy A x u mo) (X := x0S) (i := 36) y0S (by omega) rfl
  have k1 := cc_f1 (Λ0 l D cy A x u mo) (X := x0S) (i := 36) y0S (by omega) rfl
  have k2 := cc_f2 (Λ0 l D cy A x u mo) (X := x0S) (i := 36) y0S (by omega) rfl
  have k3 := cc_f3 (Λ0 l D cy A x u mo) (X := x0S) (i := 36) y0S (by omega) rfl
  have k4 := cc_f4 (Λ0 l D cy A x u mo) (X := x0S) (i := 36) y0S (by omega) rfl
  show _ = [zNn _ u (5 * 36), zNn _ u (5 * 36 + 1), zNn _ u (5 * 36 + 2), zNn _ u (5 * 36 + 3), zNn _ u (5 * 36 + 4)]
  unfold zNn
  rw [zcw_o (by omega) (by omega), zcw_o (by omega) (by omega), zcw_o (by omega) (by omega), zcw_o (by omega) (by omega), zcw_o (by omega) (by omega), k0, k1, k2, k3, k4]
  rfl
theorem znn_all : (zbW cy x u ++ []) ++ [(mo, Sum.inl (cy 1, 8, Sum.inl (fun _ => 0)))] = rlAll.map (zNn (Λ0 l D cy A x u mo) u) := by
  have h0 := znn_h (x := x) (u := u) (mo := mo) (l := l) (D := D) (cy := cy) (A := A) (h := 0) (by omega)
  have h1 := znn_h (x := x) (u := u) (mo := mo) (l := l) (D := D) (cy := cy) (A := A) (h := 1) (by omega)
  have h2 := znn_h (x := x) (u := u) (mo := mo) (l := l) (D := D) (cy := cy) (A := A) (h := 2) (by omega)
  have h3 := znn_h (x := x) (u := u) (mo := mo) (l := l) (D := D) (cy := cy) (A := A) (h := 3) (by omega)
  have h4 := znn_h (x := x) (u := u) (mo := mo) (l := l) (D := D) (cy := cy) (A := A) (h := 4) (by omega)
  have h5 := znn_h (x := x) (u := u) (mo := mo) (l := l) (D := D) (cy := cy) (A := A) (h := 5) (by omega)
  have hf := znn_36 (x := x) (u := u) (mo := mo) (l := l) (D := D) (cy := cy) (A := A)
  have hi : ziW cy u.2.2.1.1 u.2.2.1.2 = zNn (Λ0 l D cy A x u mo) u 198 :: zNn (Λ0 l D cy A x u mo) u 199 :: (zhW cy (hqF u 5) (huF u 5) ++ (zhW cy (hqF u 4) (huF u 4) ++ (zhW cy (hqF u 3) (huF u 3) ++ (zhW cy (hqF u 2) (huF u 2) ++ [])))) := rfl
  have hr : zrW cy u.2.2.2.1.1 u.2.2.2.1.2 = [200, 201, 202, 203].map (zNn (Λ0 l D cy A x u mo) u) := rfl
  have hm : [((mo, Sum.inl (cy 1, 8, Sum.inl (fun _ => 0))) : Nat × va_E)] = [204].map (zNn (Λ0 l D cy A x u mo) u) := rfl
  have hb : zbW cy x u = zNn (Λ0 l D cy A x u mo) u 197 :: (zfW cy u.2.2.2.2.1 u.2.2.2.2.2 ++ (zrW cy u.2.2.2.1.1 u.2.2.2.1.2 ++ (ziW cy u.2.2.1.1 u.2.2.1.2 ++ (zhW cy (hqF u 1) (huF u 1) ++ (zhW cy (hqF u 0) (huF u 0) ++ []))))) := rfl
  rw [hb, hf, hr, hi, hm, h0, h1, h2, h3, h4, h5]
  unfold rlAll
  simp only [List.map_append, List.map_cons, List.map_nil]
theorem row_at {D : va_G} {cl : List vw_C} {a n : Nat} {cA : ClassId} {f f' : Nat → Option Nat} {H : Heap} (h : va_at D cl (a, .inl (cA, n, .inr (.inr (.inr (.inr f))))) H) (e : ∀ i, i < n → f i = f' i) : va_at D cl (a, .inl (cA, n, .inr (.inr (.inr (.inr f'))))) H := by
  have e1 : vp_cell cA (n, .inr (.inr (.inr (.inr f)))) = vp_cell cA (n, .inr (.inr (.inr (.inr f')))) := by
    rw [vp_cell_q, vp_cell_q]
    unfold arrV
    congr 1
    apply Array.ext
    · simp
    · intro i hi1 hi2
      simp at hi1
      simp [e i hi1]
  show H[a]? = some (vp_cell cA (n, .inr (.inr (.inr (.inr f')))))
  rw [← e1]
  exact h
/-- the memory at the start -/
theorem mem_0 {H : Heap} (hP : va_P D vwCl ((zbW cy x u ++ []) ++ [(mo, Sum.inl (cy 1, 8, Sum.inl (fun _ => 0)))]) H) (hD : va_D A ((zbW cy x u ++ []) ++ [(mo, Sum.inl (cy 1, 8, Sum.inl (fun _ => 0)))])) :
    va_P D vwCl (wl (zaF x u mo) (CC (Λ0 l D cy A x u mo) x0S y0S)) H ∧ va_D A (wl (zaF x u mo) (CC (Λ0 l D cy A x u mo) x0S y0S)) := by
  rw [znn_all (l := l) (D := D) (A := A)] at hP hD
  have hP := wp_P hP (rl_perm.map _)
  have hD := wp_D hD (rl_perm.map _)
  have e1 : ((List.range 205).map (zNn (Λ0 l D cy A x u mo) u)).map (fun q => q.1) = (wl (zaF x u mo) (CC (Λ0 l D cy A x u mo) x0S y0S)).map (fun q => q.1) := by
    unfold wl
    rw [List.map_map, List.map_map]
    rfl
  refine ⟨fun k q hk => ?_, ?_⟩
  · have hk2 : k < nR := by
      have := (List.getElem?_eq_some_iff.mp hk).1
      simpa [wl] using this
    rw [wl_get hk2] at hk
    cases hk
    have h1 := hP k (zNn (Λ0 l D cy A x u mo) u k) (by rw [List.getElem?_map, List.getElem?_range (show k < 205 from hk2)]; rfl)
    unfold zNn at h1
    by_cases c1 : 186 ≤ k ∧ k < 197 ∧ k % 2 = 0
    · obtain ⟨h, rfl⟩ : ∃ h, k = 186 + 2 * h := ⟨(k - 186) / 2, by omega⟩
      have hh : h < 6 := by omega
      unfold zCw at h1
      rw [if_pos c1, show (186 + 2 * h - 186) / 2 = h by omega] at h1
      rw [cc_hr _ _ _ hh]
      refine row_at h1 (fun i hi => ?_)
      unfold rwF
      rw [if_pos hi]
      show _ = some (zaF x u mo (5 * (6 * h + i)))
      rw [za_f0 hh hi]
    · by_cases c2 : k = 199
      · subst c2
        have h2 : va_at D vwCl (zaF x u mo 199, .inl (cy 4, 4, .inr (.inr (.inr (.inr (rwF u.2.2.1.2.2.1 4)))))) H := h1
        rw [cc_199]
        refine row_at h2 (fun i hi => ?_)
        unfold rwF
        rw [if_pos hi]
        show _ = some (zaF x u mo (189 + 2 * (i % 4)))
        rw [show 189 + 2 * (i % 4) = 185 + 2 * (2 + i) by omega, za_h (by omega)]
        unfold hqF
        rw [if_neg (by omega), if_neg (by omega), show 2 + i - 2 = i by omega]
      · rw [zcw_o c1 c2] at h1
        exact h1
  · obtain ⟨n1, n2⟩ := wd_nd.mp hD
    refine wd_nd.mpr ⟨by rw [← e1]; exact n1, fun q hq => ?_⟩
    have hm : q.1 ∈ (wl (zaF x u mo) (CC (Λ0 l D cy A x u mo) x0S y0S)).map (fun q => q.1) := List.mem_map.mpr ⟨q, hq, rfl⟩
    rw [← e1] at hm
    obtain ⟨q2, hq2, e2⟩ := List.mem_map.mp hm
    rw [← e2]
    exact n2 q2 hq2
end START
