/-! What the program's response is -/
theorem mulb {a b A B : Int} (h1 : -A ≤ a) (h2 : a ≤ A) (h3 : -B ≤ b) (h4 : b ≤ B) (hA : 0 ≤ A) : -(A * B) ≤ a * b ∧ a * b ≤ A * B := by
  have ha : mx_abs a ≤ A := mx_abs_of h2 (by omega)
  have hb : mx_abs b ≤ B := mx_abs_of h4 (by omega)
  obtain ⟨p1, p2⟩ := mx_abs_mul (b := b) ha
  have := Int.mul_le_mul_of_nonneg_left hb hA
  omega
def LSm (φ : Nat → Int) (ld : Nat → Nat → Int) (s : Nat) : Int := mx_sum (List.range 4) (fun c => φ c * ld c s)
def HS (φ ha : Nat → Int) (s : Nat) : Int := mx_sum (List.range 4) (fun c => φ c * ha s)
/-- the right side -/
def BS (K : Nat → Nat → Int) (hd : Nat → Nat) (φ ha : Nat → Int) (ld : Nat → Nat → Int) (s : Nat) : Int := LSm φ ld s - mx_sum (List.range 10) (fun o => if hd o = 0 then 0 else K s o * HS φ ha o)
/-- what the response reads -/
def qx (z : gS) (φ ha : Nat → Int) (ld : Nat → Nat → Int) (hd : Nat → Nat) : Prop := (∀ c, c < 4 → z.2.2.1 16 c = iI (φ c) ∧ -128 ≤ φ c ∧ φ c ≤ 128) ∧ (∀ d, d < 10 → z.2.2.1 10 d = iI (ha d) ∧ -9 ≤ ha d ∧ ha d ≤ 9) ∧ (∀ c, c < 4 → ∀ d, d < 10 → z.2.2.1 (c + 28) d = iI (ld c d) ∧ -99 ≤ ld c d ∧ ld c d ≤ 99) ∧ ∀ d, d < 10 → z.2.2.1 9 d = nI (hd d) ∧ hd d ≤ 1
theorem qx_keep {b d : List Nat} {z y : gS} {φ ha : Nat → Int} {ld : Nat → Nat → Int} {hd : Nat → Nat} (h : qx y φ ha ld hd) (hf : fr [] b [] d z y) : qx z φ ha ld hd := by
  have e : ∀ k, z.2.2.1 k = y.2.2.1 k := fun k => hf.2.2.1 k List.not_mem_nil
  unfold qx
  simp only [e]
  exact h
theorem lp_sl1 {z : gS} {φ ha : Nat → Int} {ld : Nat → Nat → Int} {hd : Nat → Nat} (h : qx z φ ha ld hd) {s : Nat} (hs : s < 10) : ∀ (g f c : Nat), c + g = 4 → g < f → l_R_sumUpLoads_1_13 f z (nI s) (jl (mx_sum (List.range c) (fun c => φ c * ld c s))) (nI c) = some (nI s, jl (LSm φ ld s), z)
  | 0, f + 1, c, hg, hf => by
    have : c = 4 := by omega
    subst this
    rw [l_R_sumUpLoads_1_13, if_pos (by decide)]
    rfl
  | g + 1, f + 1, c, hg, hf => by
    have hc : c < 4 := by omega
    have c1 := ck_in hc (by decide)
    have c2 := ck_in hs (by decide)
    obtain ⟨a1, a2, a3⟩ := h.1 c hc
    obtain ⟨b1, b2, b3⟩ := h.2.2.1 c hc s hs
    have hm := mulb a2 a3 b2 b3 (by decide)
    rw [l_R_sumUpLoads_1_13, if_neg (show ¬ (4 : Int32) ≤ nI c from nI_ge (b := 4) hc (by decide))]
    simp only [if_neg c1, if_neg c2, let_s]
    rw [nI_clamp (show c < 2 ^ 31 by omega), nI_clamp (show s < 2 ^ 31 by omega), a1, b1, iI_mul, jl_i (by omega) (by omega), jl_add, nI_1, ← mx_rs c (fun c => φ c * ld c s)]
    exact lp_sl1 h hs g f (c + 1) (by omega) (by omega)
theorem lp_sl2 {φ ha : Nat → Int} {ld : Nat → Nat → Int} {hd : Nat → Nat} : ∀ (g f s : Nat) (z : gS), s + g = 10 → g < f → qx z φ ha ld hd → (∀ k, k < s → z.2.2.2 24 k = jl (LSm φ ld k)) → ∃ z', l_R_sumUpLoads_1_2 f z (nI s) = some z' ∧ fr [] [] [] [24] z' z ∧ ∀ k, k < 10 → z'.2.2.2 24 k = jl (LSm φ ld k)
  | 0, f + 1, s, z, hg, hf, h, hz => by
    have : s = 10 := by omega
    subst this
    rw [l_R_sumUpLoads_1_2, if_pos (by decide)]
    exact ⟨z, rfl, fr_rf _ _ _ _ z, hz⟩
  | g + 1, f + 1, s, z, hg, hf, h, hz => by
    have hs : s < 10 := by omega
    have c1 := ck_in hs (by decide)
    have e := lp_sl1 h hs 4 200 0 rfl (by decide)
    have e' : l_R_sumUpLoads_1_13 200 z (nI s) 0 0 = some (nI s, jl (LSm φ ld s), z) := e
    rw [l_R_sumUpLoads_1_2, if_neg (show ¬ (10 : Int32) ≤ nI s from nI_ge (b := 10) hs (by decide)), e', bd3_s, if_neg c1, let_s, nI_clamp (show s < 2 ^ 31 by omega), nI_1]
    have hf1 : fr [] [] [] [24] (s_J z 24 (vp_updL (z.2.2.2 24) s (jl (LSm φ ld s)))) z := fr_J _ _ (by decide)
    obtain ⟨z', b1, b2, b3⟩ := lp_sl2 g f (s + 1) (s_J z 24 (vp_updL (z.2.2.2 24) s (jl (LSm φ ld s)))) (by omega) (by omega) (qx_keep h hf1) (fun k hk => by
      rw [sJ_self]
      by_cases e : k = s
      · rw [e, pk_uLs]
      · rw [pk_uLn e]; exact hz k (by omega))
    exact ⟨z', b1, fr_tr b2 hf1, b3⟩
theorem lp_hd1 {z : gS} {φ ha : Nat → Int} {ld : Nat → Nat → Int} {hd : Nat → Nat} (h : qx z φ ha ld hd) {s : Nat} (hs : s < 10) : ∀ (g f c : Nat), c + g = 4 → g < f → l_R_heldDisplacement_1_5 f z (nI s) (jl (mx_sum (List.range c) (fun c => φ c * ha s))) (nI c) = some (jl (HS φ ha s), z)
  | 0, f + 1, c, hg, hf => by
    have : c = 4 := by omega
    subst this
    rw [l_R_heldDisplacement_1_5, if_pos (by decide)]
    rfl
  | g + 1, f + 1, c, hg, hf => by
    have hc : c < 4 := by omega
    have c1 := ck_in hc (by decide)
    have c2 := ck_in hs (by decide)
    obtain ⟨a1, a2, a3⟩ := h.1 c hc
    obtain ⟨b1, b2, b3⟩ := h.2.1 s hs
    have hm := mulb a2 a3 b2 b3 (by decide)
    rw [l_R_heldDisplacement_1_5, if_neg (show ¬ (4 : Int32) ≤ nI c from nI_ge (b := 4) hc (by decide))]
    simp only [if_neg c1, if_neg c2, let_s]
    rw [nI_clamp (show c < 2 ^ 31 by omega), nI_clamp (show s < 2 ^ 31 by omega), a1, b1, iI_mul, jl_i (by omega) (by omega), jl_add, nI_1, ← mx_rs c (fun c => φ c * ha s)]
    exact lp_hd1 h hs g f (c + 1) (by omega) (by omega)
theorem f_hd {z : gS} {φ ha : Nat → Int} {ld : Nat → Nat → Int} {hd : Nat → Nat} (h : qx z φ ha ld hd) {s : Nat} (hs : s < 10) : f_R_heldDisplacement_1 z (nI s) = some (jl (HS φ ha s), z) := by
  unfold f_R_heldDisplacement_1
  have e := lp_hd1 h hs 4 200 0 rfl (by decide)
  have e' : l_R_heldDisplacement_1_5 200 z (nI s) 0 0 = some (jl (HS φ ha s), z) := e
  rw [e', bd2_s]
theorem lp_mv {φ ha : Nat → Int} {ld : Nat → Nat → Int} {hd : Nat → Nat} {D : Int} : ∀ (g f s : Nat) (z : gS), s + g = 10 → g < f → qx z φ ha ld hd → z.2.1 0 = jl D → (∀ k, k < s → z.2.2.2 25 k = jl (if hd k = 0 then 0 else HS φ ha k * D)) → ∃ z', l_R_moveHeldSlots_1_2 f z (nI s) = some z' ∧ fr [] [] [] [25] z' z ∧ ∀ k, k < 10 → z'.2.2.2 25 k = jl (if hd k = 0 then 0 else HS φ ha k * D)
  | 0, f + 1, s, z, hg, hf, h, hD, hz => by
    have : s = 10 := by omega
    subst this
    rw [l_R_moveHeldSlots_1_2, if_pos (by decide)]
    exact ⟨z, rfl, fr_rf _ _ _ _ z, hz⟩
  | g + 1, f + 1, s, z, hg, hf, h, hD, hz => by
    have hs : s < 10 := by omega
    have c1 := ck_in hs (by decide)
    obtain ⟨d1, d2⟩ := h.2.2.2 s hs
    have next : ∀ v : Int, v = (if hd s = 0 then 0 else HS φ ha s * D) → ∃ z', l_R_moveHeldSlots_1_2 f (s_J z 25 (vp_updL (z.2.2.2 25) s (jl v))) (nI (s + 1)) = some z' ∧ fr [] [] [] [25] z' z ∧ ∀ k, k < 10 → z'.2.2.2 25 k = jl (if hd k = 0 then 0 else HS φ ha k * D) := fun v hv => by
      have hf1 : fr [] [] [] [25] (s_J z 25 (vp_updL (z.2.2.2 25) s (jl v))) z := fr_J _ _ (by decide)
      obtain ⟨z', b1, b2, b3⟩ := lp_mv g f (s + 1) (s_J z 25 (vp_updL (z.2.2.2 25) s (jl v))) (by omega) (by omega) (qx_keep h hf1) hD (fun k hk => by
        rw [sJ_self]
        by_cases e : k = s
        · rw [e, pk_uLs, hv]
        · rw [pk_uLn e]; exact hz k (by omega))
      exact ⟨z', b1, fr_tr b2 hf1, b3⟩
    rw [l_R_moveHeldSlots_1_2, if_neg (show ¬ (10 : Int32) ≤ nI s from nI_ge (b := 10) hs (by decide))]
    simp only [if_neg c1, let_s, f_hd h hs, bd2_s, hD, jl_mul, nI_1]
    rw [nI_clamp (show s < 2 ^ 31 by omega), d1]
    by_cases q : hd s = 0
    · rw [if_pos (by rw [q]; rfl)]
      exact next 0 (by rw [if_pos q])
    · rw [if_neg (nI_ne0 (by omega) (by omega))]
      exact next _ (by rw [if_neg q])
theorem lp_rs1 {z : gS} {φ ha : Nat → Int} {ld : Nat → Nat → Int} {hd : Nat → Nat} {K : Nat → Nat → Int} (h : qx z φ ha ld hd) (hK : ∀ k, k < 10 → ∀ c, c < 10 → z.2.2.2 (k + 32) c = jl (K k c)) {s : Nat} (hs : s < 10) {i : Int32} : ∀ (g f o : Nat), o + g = 10 → g < f → l_R_findRightSide_1_2_3_33 f z i (nI s) (jl (LSm φ ld s - mx_sum (List.range o) (fun o => if hd o = 0 then 0 else K s o * HS φ ha o))) (nI o) = some (i, jl (BS K hd φ ha ld s), z)
  | 0, f + 1, o, hg, hf => by
    have : o = 10 := by omega
    subst this
    rw [l_R_findRightSide_1_2_3_33, if_pos (by decide)]
    rfl
  | g + 1, f + 1, o, hg, hf => by
    have ho : o < 10 := by omega
    have c1 := ck_in hs (by decide)
    have c2 := ck_in ho (by decide)
    obtain ⟨d1, d2⟩ := h.2.2.2 o ho
    have ih := lp_rs1 h hK hs (i := i) g f (o + 1) (by omega) (by omega)
    rw [mx_rs] at ih
    rw [l_R_findRightSide_1_2_3_33, if_neg (show ¬ (10 : Int32) ≤ nI o from nI_ge (b := 10) ho (by decide))]
    simp only [if_neg c1, if_neg c2, let_s, f_hd h ho, bd2_s, nI_1]
    rw [nI_clamp (show s < 2 ^ 31 by omega), nI_clamp (show o < 2 ^ 31 by omega), d1, hK s hs o ho, jl_mul, jl_sub]
    by_cases q : hd o = 0
    · rw [if_pos (by rw [q]; rfl)]
      rw [if_pos q, Int.add_zero] at ih
      exact ih
    · rw [if_neg (nI_ne0 (by omega) (by omega))]
      rw [if_neg q] at ih
      rw [Int.sub_sub]
      exact ih
theorem lp_rs2 {φ ha : Nat → Int} {ld : Nat → Nat → Int} {hd us : Nat → Nat} {K : Nat → Nat → Int} {n : Nat} (hu : usF n us) : ∀ (g f i : Nat) (z : gS), i + g = n → g < f → qx z φ ha ld hd → z.1 5 = nI n → (∀ k, k < n → z.2.2.1 15 k = nI (us k)) → (∀ k, k < 10 → ∀ c, c < 10 → z.2.2.2 (k + 32) c = jl (K k c)) → (∀ k, k < 10 → z.2.2.2 24 k = jl (LSm φ ld k)) → (∀ k, k < i → z.2.2.2 26 k = jl (BS K hd φ ha ld (us k))) → ∃ z', l_R_findRightSide_1_2_3_3 f z (nI i) = some z' ∧ fr [] [] [] [26] z' z ∧ ∀ k, k < n → z'.2.2.2 26 k = jl (BS K hd φ ha ld (us k))
  | 0, f + 1, i, z, hg, hf, h, h5, h15, hK, h24, hz => by
    have hn := hu.1
    have : i = n := by omega
    subst this
    rw [l_R_findRightSide_1_2_3_3, h5, if_pos (nI_le (Nat.le_refl _) (by omega))]
    exact ⟨z, rfl, fr_rf _ _ _ _ z, hz⟩
  | g + 1, f + 1, i, z, hg, hf, h, h5, h15, hK, h24, hz => by
    have hn := hu.1
    have hi : i < n := by omega
    have hs := hu.2.1 i hi
    have c1 := ck_in (show i < 10 by omega) (by decide)
    have c2 := ck_in hs (by decide)
    have e := lp_rs1 h hK hs (i := nI i) 10 200 0 rfl (by decide)
    have e' : l_R_findRightSide_1_2_3_33 200 z (nI i) (nI (us i)) (jl (LSm φ ld (us i))) 0 = some (nI i, jl (BS K hd φ ha ld (us i)), z) := by
      have e0 : LSm φ ld (us i) - mx_sum (List.range 0) (fun o => if hd o = 0 then 0 else K (us i) o * HS φ ha o) = LSm φ ld (us i) := Int.sub_zero _
      rw [e0] at e
      exact e
    rw [l_R_findRightSide_1_2_3_3, h5, if_neg (nI_ge hi (by omega))]
    simp only [if_neg c1, let_s]
    rw [nI_clamp (show i < 2 ^ 31 by omega), h15 i hi, if_neg c2, nI_clamp (show us i < 2 ^ 31 by omega), h24 _ hs, e', bd3_s, if_neg c1, nI_clamp (show i < 2 ^ 31 by omega), nI_1]
    have hf1 : fr [] [] [] [26] (s_J z 26 (vp_updL (z.2.2.2 26) i (jl (BS K hd φ ha ld (us i))))) z := fr_J _ _ (by decide)
    obtain ⟨z', b1, b2, b3⟩ := lp_rs2 hu g f (i + 1) (s_J z 26 (vp_updL (z.2.2.2 26) i (jl (BS K hd φ ha ld (us i))))) (by omega) (by omega) (qx_keep h hf1) h5 h15 (fun k hk c hc => by rw [sJ_ne _ _ (show k + 32 ≠ 26 by omega)]; exact hK k hk c hc) (fun k hk => by rw [sJ_ne _ _ (show 24 ≠ 26 by decide)]; exact h24 k hk) (fun k hk => by
      rw [sJ_self]
      by_cases e : k = i
      · rw [e, pk_uLs]
      · rw [pk_uLn e]; exact hz k (by omega))
    exact ⟨z', b1, fr_tr b2 hf1, b3⟩
/-! Horner -/
theorem lp_h33 {n k : Nat} {P b x : Nat → Int} (hn : n ≤ 10) (hk : k ≤ n) : ∀ (g f i : Nat) (z : gS), i + g = n → g < f → z.1 6 = nI n → z.2.2.2 20 k = jl (P k) → (∀ j, j < n → z.2.2.2 26 j = jl (b j)) → (∀ j, j < n → z.2.2.2 27 j = jl (if j < i then x j + P k * b j else x j)) → ∃ z', l_E_solveScaled_26_27_33 f z (nI k) (nI i) = some (nI k, z') ∧ fr [] [] [] [27] z' z ∧ ∀ j, j < n → z'.2.2.2 27 j = jl (x j + P k * b j)
  | 0, f + 1, i, z, hg, hf, h6, hP, hb, hz => by
    have : i = n := by omega
    subst this
    rw [l_E_solveScaled_26_27_33, h6, if_pos (nI_le (Nat.le_refl _) (by omega))]
    exact ⟨z, rfl, fr_rf _ _ _ _ z, fun j hj => by rw [hz j hj, if_pos hj]⟩
  | g + 1, f + 1, i, z, hg, hf, h6, hP, hb, hz => by
    have hi : i < n := by omega
    have c1 := ck_in (show i < 10 by omega) (by decide)
    have c2 := ck_in (show k < 11 by omega) (by decide)
    rw [l_E_solveScaled_26_27_33, h6, if_neg (nI_ge hi (by omega))]
    simp only [if_neg c1, if_neg c2, let_s]
    rw [nI_clamp (show i < 2 ^ 31 by omega), nI_clamp (show k < 2 ^ 31 by omega), hP, hb i hi, hz i hi, if_neg (Nat.lt_irrefl i), jl_mul, jl_add, nI_1]
    have hf1 : fr [] [] [] [27] (s_J z 27 (vp_updL (z.2.2.2 27) i (jl (x i + P k * b i)))) z := fr_J _ _ (by decide)
    obtain ⟨z', b1, b2, b3⟩ := lp_h33 hn hk g f (i + 1) (s_J z 27 (vp_updL (z.2.2.2 27) i (jl (x i + P k * b i)))) (by omega) (by omega) h6 (by rw [sJ_ne _ _ (show 20 ≠ 27 by decide)]; exact hP) (fun j hj => by rw [sJ_ne _ _ (show 26 ≠ 27 by decide)]; exact hb j hj) (fun j hj => by
      rw [sJ_self]
      by_cases e : j = i
      · rw [e, pk_uLs, if_pos (by omega)]
      · rw [pk_uLn e, hz j hj]
        by_cases q : j < i
        · rw [if_pos q, if_pos (by omega)]
        · rw [if_neg q, if_neg (by omega)])
    exact ⟨z', b1, fr_tr b2 hf1, b3⟩
theorem n2327 (p : Nat) : p + 42 ∉ [23, 27] := fun m => by
  have : ∀ x ∈ [23, 27], x < 42 := by decide
  have := this _ m
  omega
theorem lp_h13 {n : Nat} {A : Nat → Nat → Int} {P b : Nat → Int} (hn : n ≤ 10) : ∀ (g f k : Nat) (z : gS), k + 1 + g = n → g < f → z.1 6 = nI n → (∀ p, p < n → ∀ q, q < n → z.2.2.2 (p + 42) q = jl (A p q)) → (∀ j, j ≤ n → z.2.2.2 20 j = jl (P j)) → (∀ j, j < n → z.2.2.2 26 j = jl (b j)) → (∀ j, j < n → z.2.2.2 27 j = jl (ch_ho A (List.range n) P b k j)) → ∃ z', l_E_solveScaled_26_27_13 f z (nI (k + 1)) = some z' ∧ fr [] [] [] [23, 27] z' z ∧ ∀ j, j < n → z'.2.2.2 27 j = jl (ch_ho A (List.range n) P b (n - 1) j)
  | 0, f + 1, k, z, hg, hf, h6, hA, hP, hb, hz => by
    have : k = n - 1 := by omega
    subst this
    rw [l_E_solveScaled_26_27_13, h6, if_pos (nI_le (show n ≤ n - 1 + 1 by omega) (by omega))]
    exact ⟨z, rfl, fr_rf _ _ _ _ z, hz⟩
  | g + 1, f + 1, k, z, hg, hf, h6, hA, hP, hb, hz => by
    rw [l_E_solveScaled_26_27_13, h6, if_neg (nI_ge (show k + 1 < n by omega) (by omega))]
    obtain ⟨z1, a1, a2, a3⟩ := f_mu27 (len := n) hn hA hz
    rw [a1, bd1_s]
    obtain ⟨z2, b1, b2, b3⟩ := lp_h33 (k := k + 1) (P := P) (b := b) (x := fun p => mx_sum (List.range n) (fun q => A p q * ch_ho A (List.range n) P b k q)) hn (by omega) n 200 0 z1 (by omega) (by omega) (by rw [a2.1 6 (by decide)]; exact h6) (by rw [a2.2.2.2 20 (by decide)]; exact hP _ (by omega)) (fun j hj => by rw [a2.2.2.2 26 (by decide)]; exact hb j hj) (fun j hj => by rw [a3 j hj, if_neg (by omega)])
    have b1' : l_E_solveScaled_26_27_33 200 z1 (nI (k + 1)) 0 = some (nI (k + 1), z2) := b1
    rw [b1', bd2_s, nI_1]
    have hf2 : fr [] [] [] [23, 27] z2 z := fr_tr (fr_w b2 (by decide) (by decide) (by decide) (by decide)) a2
    obtain ⟨z', c1, c2, c3⟩ := lp_h13 hn g f (k + 1) z2 (by omega) (by omega) (by rw [hf2.1 6 (by decide)]; exact h6) (fun p hp q hq => by rw [hf2.2.2.2 _ (n2327 p)]; exact hA p hp q hq) (fun j hj => by rw [hf2.2.2.2 20 (by decide)]; exact hP j hj) (fun j hj => by rw [hf2.2.2.2 26 (by decide)]; exact hb j hj) b3
    exact ⟨z', c1, fr_tr c2 hf2, c3⟩
theorem lp_h83 {n : Nat} {x : Nat → Int} (hn : n ≤ 10) : ∀ (g f i : Nat) (z : gS), i + g = n → g < f → z.1 6 = nI n → (∀ j, j < n → z.2.2.2 27 j = jl (if j < i then - x j else x j)) → ∃ z', l_E_solveScaled_26_27_83 f z (nI i) = some z' ∧ fr [] [] [] [27] z' z ∧ ∀ j, j < n → z'.2.2.2 27 j = jl (- x j)
  | 0, f + 1, i, z, hg, hf, h6, hz => by
    have : i = n := by omega
    subst this
    rw [l_E_solveScaled_26_27_83, h6, if_pos (nI_le (Nat.le_refl _) (by omega))]
    exact ⟨z, rfl, fr_rf _ _ _ _ z, fun j hj => by rw [hz j hj, if_pos hj]⟩
  | g + 1, f + 1, i, z, hg, hf, h6, hz => by
    have hi : i < n := by omega
    have c1 := ck_in (show i < 10 by omega) (by decide)
    rw [l_E_solveScaled_26_27_83, h6, if_neg (nI_ge hi (by omega))]
    simp only [if_neg c1, let_s]
    rw [nI_clamp (show i < 2 ^ 31 by omega), hz i hi, if_neg (Nat.lt_irrefl i), jl_neg, nI_1]
    have hf1 : fr [] [] [] [27] (s_J z 27 (vp_updL (z.2.2.2 27) i (jl (- x i)))) z := fr_J _ _ (by decide)
    obtain ⟨z', b1, b2, b3⟩ := lp_h83 hn g f (i + 1) (s_J z 27 (vp_updL (z.2.2.2 27) i (jl (- x i)))) (by omega) (by omega) h6 (fun j hj => by
      rw [sJ_self]
      by_cases e : j = i
      · rw [e, pk_uLs, if_pos (by omega)]
      · rw [pk_uLn e, hz j hj]
        by_cases q : j < i
        · rw [if_pos q, if_pos (by omega)]
        · rw [if_neg q, if_neg (by omega)])
    exact ⟨z', b1, fr_tr b2 hf1, b3⟩
theorem ev_n (n : Nat) (h : n ≤ 10) : nI n - nI n / (2 : Int32) * (2 : Int32) = nI (n % 2) := pk_rem (d := 2) (by omega) (by decide) (by decide)
/-- the scaled solution -/
theorem f_ss {z : gS} {n : Nat} {A : Nat → Nat → Int} {b : Nat → Int} (hn : n ≤ 10) (h6 : z.1 6 = nI n) (hA : ∀ p, p < n → ∀ q, q < n → z.2.2.2 (p + 42) q = jl (A p q)) (hP : ∀ j, j ≤ n → z.2.2.2 20 j = jl (ch_P A (List.range n) j)) (hb : ∀ j, j < n → z.2.2.2 26 j = jl (b j)) : ∃ (z' : gS) (y : Nat → Int), f_E_solveScaled_26_27 z = some z' ∧ fr [] [] [] [23, 27] z' z ∧ (∀ j, j < n → z'.2.2.2 27 j = jl (y j)) ∧ ∀ p, p < n → mx_sum (List.range n) (fun q => A p q * y q) = pd_D A (List.range n) * b p := by
  have e0 : (0 : Int32).toNatClampNeg = 0 := rfl
  unfold f_E_solveScaled_26_27
  rw [h6, e0, nI_clamp (show n < 2 ^ 31 by omega), if_neg (by
    intro h
    rcases h with h | h | h | h | h
    · exact absurd h (by decide)
    · exact absurd h (by decide)
    · exact nI_pos (by omega) h
    · omega
    · omega), let_s]
  have hf1 : fr [] [] [] [23, 27] (s_J z 27 (va_cpy (z.2.2.2 26) (z.2.2.2 27) 0 0 n)) z := fr_J _ _ (by decide)
  by_cases q0 : n = 0
  · subst q0
    rw [l_E_solveScaled_26_27_13, show (s_J z 27 (va_cpy (z.2.2.2 26) (z.2.2.2 27) 0 0 0)).1 6 = nI 0 from h6, if_pos (by decide), bd1_s, show (s_J z 27 (va_cpy (z.2.2.2 26) (z.2.2.2 27) 0 0 0)).1 6 = nI 0 from h6, if_pos (by decide), l_E_solveScaled_26_27_83, show (s_J z 27 (va_cpy (z.2.2.2 26) (z.2.2.2 27) 0 0 0)).1 6 = nI 0 from h6, if_pos (by decide), bd1_s]
    exact ⟨_, fun _ => 0, rfl, hf1, fun j hj => absurd hj (Nat.not_lt_zero j), fun p hp => absurd hp (Nat.not_lt_zero p)⟩
  have hho : ∀ p, p < n → mx_sum (List.range n) (fun q => A p q * ch_ho A (List.range n) (ch_P A (List.range n)) b (n - 1) q) = - (ch_P A (List.range n) n * b p) := fun p hp => by
    have h := ch_end A (l := List.range n) List.nodup_range b p (List.mem_range.mpr hp) (n - 1 + 1) (by rw [List.length_range]; omega)
    have h2 : mx_sum (List.range n) (fun q => A p q * ch_ho A (List.range n) (ch_P A (List.range n)) b (n - 1) q) + ch_P A (List.range n) (n - 1 + 1) * b p = 0 := h
    rw [show n - 1 + 1 = n by omega] at h2
    omega
  obtain ⟨z1, a1, a2, a3⟩ := lp_h13 (A := A) (P := ch_P A (List.range n)) (b := b) hn (n - 1) 200 0 (s_J z 27 (va_cpy (z.2.2.2 26) (z.2.2.2 27) 0 0 n)) (by omega) (by omega) h6 (fun p hp q hq => by rw [hf1.2.2.2 _ (n2327 p)]; exact hA p hp q hq) (fun j hj => by rw [hf1.2.2.2 20 (by decide)]; exact hP j hj) (fun j hj => by rw [hf1.2.2.2 26 (by decide)]; exact hb j hj) (fun j hj => by
    rw [sJ_self, pk_cpy_in (by omega) (by omega), Nat.sub_zero, Nat.zero_add, hb j hj]
    show _ = jl (ch_P A (List.range n) 0 * b j)
    rw [ch_P0, Int.one_mul])
  have a1' : l_E_solveScaled_26_27_13 200 (s_J z 27 (va_cpy (z.2.2.2 26) (z.2.2.2 27) 0 0 n)) 1 = some z1 := a1
  have hf2 := fr_tr a2 hf1
  have h61 : z1.1 6 = nI n := by rw [hf2.1 6 (by decide)]; exact h6
  rw [a1', bd1_s, h61, ev_n n hn]
  have hD := pdD_P A n
  by_cases q : n % 2 = 0
  · rw [if_pos (by rw [q]; rfl)]
    obtain ⟨z2, b1, b2, b3⟩ := lp_h83 (x := ch_ho A (List.range n) (ch_P A (List.range n)) b (n - 1)) hn n 200 0 z1 (by omega) (by omega) h61 (fun j hj => by rw [if_neg (by omega)]; exact a3 j hj)
    have b1' : l_E_solveScaled_26_27_83 200 z1 0 = some z2 := b1
    rw [b1', bd1_s]
    refine ⟨z2, _, rfl, fr_tr (fr_w b2 (by decide) (by decide) (by decide) (by decide)) hf2, b3, fun p hp => ?_⟩
    have e1 : mx_sum (List.range n) (fun q => A p q * - ch_ho A (List.range n) (ch_P A (List.range n)) b (n - 1) q) = (-1) * mx_sum (List.range n) (fun q => A p q * ch_ho A (List.range n) (ch_P A (List.range n)) b (n - 1) q) := by
      rw [← mx_sum_mul]
      exact mx_sum_congr (fun q _ => by grind)
    rw [e1, hho p hp, hD, show pd_sg n = 1 from if_pos q]
    grind
  · rw [if_neg (nI_ne0 (by omega) (by omega))]
    refine ⟨z1, _, rfl, hf2, a3, fun p hp => ?_⟩
    rw [hho p hp, hD, show pd_sg n = -1 from if_neg q]
    grind
theorem lp_r40 {n : Nat} {us : Nat → Nat} {y : Nat → Int} (hu : usF n us) : ∀ (g f i : Nat) (z : gS), i + g = n → g < f → z.1 5 = nI n → (∀ k, k < n → z.2.2.1 15 k = nI (us k)) → (∀ k, k < n → z.2.2.2 27 k = jl (y k)) → (∀ k, k < i → z.2.2.2 25 (us k) = jl (y k)) → ∃ z', l_R_respond_1_2_3_40 f z (nI i) = some z' ∧ fr [] [] [] [25] z' z ∧ (∀ k, k < n → z'.2.2.2 25 (us k) = jl (y k)) ∧ ∀ s, (∀ k, k < n → us k ≠ s) → z'.2.2.2 25 s = z.2.2.2 25 s
  | 0, f + 1, i, z, hg, hf, h5, h15, h27, hz => by
    have hn := hu.1
    have : i = n := by omega
    subst this
    rw [l_R_respond_1_2_3_40, h5, if_pos (nI_le (Nat.le_refl _) (by omega))]
    exact ⟨z, rfl, fr_rf _ _ _ _ z, hz, fun _ _ => rfl⟩
  | g + 1, f + 1, i, z, hg, hf, h5, h15, h27, hz => by
    have hn := hu.1
    have hi : i < n := by omega
    have hs := hu.2.1 i hi
    have c1 := ck_in (show i < 10 by omega) (by decide)
    have c2 := ck_in hs (by decide)
    rw [l_R_respond_1_2_3_40, h5, if_neg (nI_ge hi (by omega))]
    simp only [if_neg c1, let_s]
    rw [nI_clamp (show i < 2 ^ 31 by omega), h15 i hi, if_neg c2, nI_clamp (show us i < 2 ^ 31 by omega), h27 i hi, nI_1]
    have hf1 : fr [] [] [] [25] (s_J z 25 (vp_updL (z.2.2.2 25) (us i) (jl (y i)))) z := fr_J _ _ (by decide)
    obtain ⟨z', b1, b2, b3, b4⟩ := lp_r40 hu g f (i + 1) (s_J z 25 (vp_updL (z.2.2.2 25) (us i) (jl (y i)))) (by omega) (by omega) h5 h15 (fun k hk => by rw [sJ_ne _ _ (show 27 ≠ 25 by decide)]; exact h27 k hk) (fun k hk => by
      rw [sJ_self]
      by_cases e : k = i
      · rw [e, pk_uLs]
      · rw [pk_uLn (fun q => e (us_eq hu (by omega) hi q))]; exact hz k (by omega))
    refine ⟨z', b1, fr_tr b2 hf1, b3, fun s hs9 => ?_⟩
    rw [b4 s hs9, sJ_self, pk_uLn (Ne.symm (hs9 i hi))]
theorem f_wm {z : gS} {n : Nat} {A : Nat → Nat → Int} (hn : n ≤ 10) (h6 : z.1 6 = nI n) (hP : ∀ j, j ≤ n → z.2.2.2 20 j = jl (ch_P A (List.range n) j)) : f_E_wholeMinor z = some (jl (pd_D A (List.range n)), z) := by
  have c1 := ck_in (show n < 11 by omega) (by decide)
  unfold f_E_wholeMinor
  have hD := pdD_P A n
  rw [h6]
  simp only [if_neg c1]
  rw [ev_n n hn, nI_clamp (show n < 2 ^ 31 by omega), hP n (Nat.le_refl _), hD]
  by_cases q : n % 2 = 0
  · rw [if_pos (by rw [q]; rfl), show pd_sg n = 1 from if_pos q, Int.one_mul]
  · rw [if_neg (nI_ne0 (by omega) (by omega)), show pd_sg n = -1 from if_neg q, jl_neg, Int.neg_mul, Int.one_mul, Int.neg_neg]
/-- the response -/
theorem f_resp {z : gS} {n : Nat} {A K : Nat → Nat → Int} {us hd : Nat → Nat} {φ ha : Nat → Int} {ld : Nat → Nat → Int} (hu : usF n us) (hu0 : ∀ i, i < n → hd (us i) = 0) (h : qx z φ ha ld hd) (h5 : z.1 5 = nI n) (h15 : ∀ k, k < n → z.2.2.1 15 k = nI (us k)) (h6 : z.1 6 = nI n) (hK : ∀ k, k < 10 → ∀ c, c < 10 → z.2.2.2 (k + 32) c = jl (K k c)) (hA : ∀ p, p < n → ∀ q, q < n → z.2.2.2 (p + 42) q = jl (A p q)) (hP : ∀ j, j ≤ n → z.2.2.2 20 j = jl (ch_P A (List.range n) j)) : ∃ (z' : gS) (y : Nat → Int), f_R_respond_1_2_3 z = some z' ∧ fr [] [0] [] [23, 24, 25, 26, 27] z' z ∧ (∀ p, p < n → mx_sum (List.range n) (fun q => A p q * y q) = pd_D A (List.range n) * BS K hd φ ha ld (us p)) ∧ z'.2.1 0 = jl (pd_D A (List.range n)) ∧ (∀ s, s < 10 → z'.2.2.2 24 s = jl (LSm φ ld s)) ∧ (∀ i, i < n → z'.2.2.2 25 (us i) = jl (y i)) ∧ (∀ s, s < 10 → ¬ hd s = 0 → z'.2.2.2 25 s = jl (HS φ ha s * pd_D A (List.range n))) ∧ ∀ s, s < 10 → hd s = 0 → (∀ k, k < n → us k ≠ s) → z'.2.2.2 25 s = jl 0 := by
  have hn := hu.1
  unfold f_R_respond_1_2_3
  rw [f_wm hn h6 hP, bd2_s, let_s]
  generalize hD : pd_D A (List.range n) = D
  have f0 : fr [] [0] [] [23, 24, 25, 26, 27] (s_l z 0 (jl D)) z := frl_ _ _ (by decide)
  obtain ⟨z1, a1, a2, a3⟩ := lp_sl2 (φ := φ) (ha := ha) (ld := ld) (hd := hd) 10 200 0 (s_l z 0 (jl D)) rfl (by decide) h (fun k hk => absurd hk (Nat.not_lt_zero k))
  have a1' : f_R_sumUpLoads_1 (s_l z 0 (jl D)) = some z1 := by
    unfold f_R_sumUpLoads_1
    have a9 : l_R_sumUpLoads_1_2 200 (s_l z 0 (jl D)) 0 = some z1 := a1
    rw [a9, bd1_s]
  rw [a1', bd1_s]
  have f1 : fr [] [0] [] [23, 24, 25, 26, 27] z1 z := fr_tr (fr_w a2 (by decide) (by decide) (by decide) (by decide)) f0
  have d1 : z1.2.1 0 = jl D := by rw [a2.2.1 0 (by decide), sl_self]
  obtain ⟨z2, b1, b2, b3⟩ := lp_mv (φ := φ) (ha := ha) (ld := ld) (hd := hd) (D := D) 10 200 0 z1 rfl (by decide) (qx_keep h f1) d1 (fun k hk => absurd hk (Nat.not_lt_zero k))
  have b1' : f_R_moveHeldSlots_1 z1 = some z2 := by
    unfold f_R_moveHeldSlots_1
    have b9 : l_R_moveHeldSlots_1_2 200 z1 0 = some z2 := b1
    rw [b9, bd1_s]
  rw [b1', bd1_s]
  have f2 : fr [] [0] [] [23, 24, 25, 26, 27] z2 z := fr_tr (fr_w b2 (by decide) (by decide) (by decide) (by decide)) f1
  have b32 : ∀ q, q + 32 ∉ [23, 24, 25, 26, 27] := fun q m => by have : ∀ x ∈ [23, 24, 25, 26, 27], x < 32 := (by decide); have := this _ m; omega
  have b42 : ∀ q, q + 42 ∉ [23, 24, 25, 26, 27] := fun q m => by have : ∀ x ∈ [23, 24, 25, 26, 27], x < 42 := (by decide); have := this _ m; omega
  obtain ⟨z3, c1, c2, c3⟩ := lp_rs2 (φ := φ) (ha := ha) (ld := ld) (hd := hd) (K := K) hu n 200 0 z2 (by omega) (by omega) (qx_keep h f2) (by rw [f2.1 5 (by decide)]; exact h5) (fun k hk => by rw [f2.2.2.1 15 (by decide)]; exact h15 k hk) (fun k hk c hc => by rw [f2.2.2.2 _ (b32 k)]; exact hK k hk c hc) (fun k hk => by rw [b2.2.2.2 24 (by decide)]; exact a3 k hk) (fun k hk => absurd hk (Nat.not_lt_zero k))
  have c1' : f_R_findRightSide_1_2_3 z2 = some z3 := by
    unfold f_R_findRightSide_1_2_3
    have c9 : l_R_findRightSide_1_2_3_3 200 z2 0 = some z3 := c1
    rw [c9, bd1_s]
  rw [c1', bd1_s]
  have f3 : fr [] [0] [] [23, 24, 25, 26, 27] z3 z := fr_tr (fr_w c2 (by decide) (by decide) (by decide) (by decide)) f2
  obtain ⟨z4, y, e1, e2, e3, e4⟩ := f_ss (z := z3) (A := A) (b := fun p => BS K hd φ ha ld (us p)) hn (by rw [f3.1 6 (by decide)]; exact h6) (fun p hp q hq => by rw [f3.2.2.2 _ (b42 p)]; exact hA p hp q hq) (fun j hj => by rw [f3.2.2.2 20 (by decide)]; exact hP j hj) c3
  rw [e1, bd1_s]
  have f4 : fr [] [0] [] [23, 24, 25, 26, 27] z4 z := fr_tr (fr_w e2 (by decide) (by decide) (by decide) (by decide)) f3
  obtain ⟨z5, g1, g2, g3, g4⟩ := lp_r40 hu n 200 0 z4 (by omega) (by omega) (by rw [f4.1 5 (by decide)]; exact h5) (fun k hk => by rw [f4.2.2.1 15 (by decide)]; exact h15 k hk) e3 (fun k hk => absurd hk (Nat.not_lt_zero k))
  have g1' : l_R_respond_1_2_3_40 200 z4 0 = some z5 := g1
  rw [g1', bd1_s]
  have e25 : ∀ s, s < 10 → (∀ k, k < n → us k ≠ s) → z5.2.2.2 25 s = jl (if hd s = 0 then 0 else HS φ ha s * D) := fun s hs hk => by
    rw [g4 s hk, e2.2.2.2 25 (by decide), c2.2.2.2 25 (by decide)]
    exact b3 s hs
  refine ⟨z5, y, rfl, fr_tr (fr_w g2 (by decide) (by decide) (by decide) (by decide)) f4, fun p hp => by rw [← hD]; exact e4 p hp, ?_, fun s hs => ?_, g3, fun s hs hh => ?_, fun s hs hh hk => ?_⟩
  · rw [g2.2.1 0 (by decide), e2.2.1 0 (by decide), c2.2.1 0 (by decide), b2.2.1 0 (by decide)]
    exact d1
  · rw [g2.2.2.2 24 (by decide), e2.2.2.2 24 (by decide), c2.2.2.2 24 (by decide), b2.2.2.2 24 (by decide)]
    exact a3 s hs
  · rw [e25 s hs (fun k hk e => hh (by rw [← e]; exact hu0 k hk)), if_neg hh]
  · rw [e25 s hs hk, if_pos hh]
