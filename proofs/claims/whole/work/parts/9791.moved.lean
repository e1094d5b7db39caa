/-! The reference's displacement times the determinant -/
def phi (X : Int32) (c : Nat) : Int := ((X >>> (((8 : Int32) * nI c) &&& 31)).toInt8.toInt32).toInt
theorem phi_l (X : Int32) (c : Nat) : ((X >>> (((8 : Int32) * nI c) &&& 31)).toInt8.toInt32).toInt64 = jl (phi X c) := (Int64.ofInt_int32ToInt _).symm
theorem phi_i (X : Int32) (c : Nat) : (X >>> (((8 : Int32) * nI c) &&& 31)).toInt8.toInt32 = iI (phi X c) := iI_of _
theorem phi_r (X : Int32) (c : Nat) : -128 ≤ phi X c ∧ phi X c ≤ 128 := by
  have := lg_i2b_range (X >>> (((8 : Int32) * nI c) &&& 31))
  unfold phi
  omega
/-- what the reference reads -/
def rq (z : gS) (ha : Nat → Int) (ld : Nat → Nat → Int) (hd : Nat → Nat) : Prop := (∀ d, d < 10 → z.2.2.1 8 d = iI (ha d) ∧ -9 ≤ ha d ∧ ha d ≤ 9) ∧ (∀ c, c < 4 → ∀ d, d < 10 → z.2.2.1 10 (c * 10 + d) = iI (ld c d) ∧ -99 ≤ ld c d ∧ ld c d ≤ 99) ∧ ∀ d, d < 10 → z.2.2.1 7 d = nI (hd d) ∧ hd d ≤ 1
theorem rq_of {z1 z2 : gS} {mk nb : Nat} {pt fi se st hd sp : Nat → Nat} {ha : Nat → Int} {ld : Nat → Nat → Int} (h : iv_b z1 z2 mk nb pt fi se st hd sp ha ld) : rq z2 ha ld hd := by
  obtain ⟨_, _, _, _, hh, a, _, l⟩ := h
  refine ⟨fun d hd => ⟨(a d hd).2.1, (a d hd).2.2⟩, fun c hc d hd => ?_, fun d hd => ⟨(hh d hd).2.1, (hh d hd).2.2⟩⟩
  obtain ⟨_, l2, l3⟩ := l c hc d hd
  rw [Nat.mul_comm c 10]
  exact ⟨l2, l3⟩
theorem rq_keep {a b d : List Nat} {z y : gS} {ha : Nat → Int} {ld : Nat → Nat → Int} {hd : Nat → Nat} (h : rq y ha ld hd) (hf : fr a b [] d z y) : rq z ha ld hd := by
  have e : ∀ k, z.2.2.1 k = y.2.2.1 k := fun k => hf.2.2.1 k List.not_mem_nil
  unfold rq
  simp only [e]
  exact h
theorem lp_lo {z : gS} {ha : Nat → Int} {ld : Nat → Nat → Int} {hd : Nat → Nat} (h : rq z ha ld hd) {X : Int32} {s : Nat} (hs : s < 10) : ∀ (g f c : Nat), c + g = 4 → g < f → l_M_loadOf_5 f z X (nI s) (jl (mx_sum (List.range c) (fun c => phi X c * ld c s))) (nI c) = some (jl (LSm (phi X) ld s), z)
  | 0, f + 1, c, hg, hf => by
    have : c = 4 := by omega
    subst this
    rw [l_M_loadOf_5, if_pos (by decide)]
    rfl
  | g + 1, f + 1, c, hg, hf => by
    have hc : c < 4 := by omega
    have c1 := ck_in (show c * 10 + s < 40 by omega) (by decide)
    obtain ⟨b1, b2, b3⟩ := h.2.1 c hc s hs
    rw [l_M_loadOf_5, if_neg (show ¬ (4 : Int32) ≤ nI c from nI_ge (b := 4) hc (by decide)), sl10, if_neg c1, let_s, nI_clamp (show c * 10 + s < 2 ^ 31 by omega), phi_l, b1, jl_i (by omega) (by omega), jl_mul, jl_add, nI_1, ← mx_rs c (fun c => phi X c * ld c s)]
    exact lp_lo h hs g f (c + 1) (by omega) (by omega)
theorem f_lo {z : gS} {ha : Nat → Int} {ld : Nat → Nat → Int} {hd : Nat → Nat} (h : rq z ha ld hd) {X : Int32} {s : Nat} (hs : s < 10) : f_M_loadOf z X (nI s) = some (jl (LSm (phi X) ld s), z) := by
  unfold f_M_loadOf
  have e := lp_lo h (X := X) hs 4 200 0 rfl (by decide)
  have e' : l_M_loadOf_5 200 z X (nI s) 0 0 = some (jl (LSm (phi X) ld s), z) := e
  rw [e', bd2_s]
theorem lp_fx {z : gS} {ha : Nat → Int} {ld : Nat → Nat → Int} {hd : Nat → Nat} (h : rq z ha ld hd) {X : Int32} {s : Nat} (hs : s < 10) : ∀ (g f c : Nat), c + g = 4 → g < f → l_M_fixedOf_5 f z X (nI s) (jl (mx_sum (List.range c) (fun c => phi X c * ha s))) (nI c) = some (jl (HS (phi X) ha s), z)
  | 0, f + 1, c, hg, hf => by
    have : c = 4 := by omega
    subst this
    rw [l_M_fixedOf_5, if_pos (by decide)]
    rfl
  | g + 1, f + 1, c, hg, hf => by
    have hc : c < 4 := by omega
    have c1 := ck_in hs (by decide)
    obtain ⟨b1, b2, b3⟩ := h.1 s hs
    rw [l_M_fixedOf_5, if_neg (show ¬ (4 : Int32) ≤ nI c from nI_ge (b := 4) hc (by decide)), if_neg c1, let_s, nI_clamp (show s < 2 ^ 31 by omega), phi_l, b1, jl_i (by omega) (by omega), jl_mul, jl_add, nI_1, ← mx_rs c (fun c => phi X c * ha s)]
    exact lp_fx h hs g f (c + 1) (by omega) (by omega)
theorem f_fx {z : gS} {ha : Nat → Int} {ld : Nat → Nat → Int} {hd : Nat → Nat} (h : rq z ha ld hd) {X : Int32} {s : Nat} (hs : s < 10) : f_M_fixedOf z X (nI s) = some (jl (HS (phi X) ha s), z) := by
  unfold f_M_fixedOf
  have e := lp_fx h (X := X) hs 4 200 0 rfl (by decide)
  have e' : l_M_fixedOf_5 200 z X (nI s) 0 0 = some (jl (HS (phi X) ha s), z) := e
  rw [e', bd2_s]
theorem lp_m44 {ha : Nat → Int} {ld : Nat → Nat → Int} {hd : Nat → Nat} {K : Nat → Nat → Int} {X S V : Int32} {i s : Nat} (hi : i < 10) (hs : s < 10) (hK : ∀ c, c < 10 → -1000 ≤ K s c ∧ K s c ≤ 1000) : ∀ (g f o : Nat) (z : gS), o + g = 10 → g < f → rq z ha ld hd → z.2.2.1 12 i = nI s → (∀ k, k < 100 → z.2.2.1 13 k = iI (K (k / 10) (k % 10))) → z.2.2.2 14 i = jl (LSm (phi X) ld s - mx_sum (List.range o) (fun o => if hd o = 0 then 0 else K s o * HS (phi X) ha o)) → ∃ z', l_M_moved_44 f z X S V (nI i) (nI o) = some (X, S, V, nI i, z') ∧ fr [] [] [] [14] z' z ∧ z'.2.2.2 14 i = jl (BS K hd (phi X) ha ld s) ∧ ∀ j, j ≠ i → z'.2.2.2 14 j = z.2.2.2 14 j
  | 0, f + 1, o, z, hg, hf, h, h12, h13, hz => by
    have : o = 10 := by omega
    subst this
    rw [l_M_moved_44, if_pos (by decide)]
    exact ⟨z, rfl, fr_rf _ _ _ _ z, hz, fun _ _ => rfl⟩
  | g + 1, f + 1, o, z, hg, hf, h, h12, h13, hz => by
    have ho : o < 10 := by omega
    have c1 := ck_in ho (by decide)
    have c2 := ck_in hi (by decide)
    have c3 := ck_in (show s * 10 + o < 100 by omega) (by decide)
    obtain ⟨d1, d2⟩ := h.2.2 o ho
    have hKo := hK o ho
    have eK : z.2.2.1 13 (s * 10 + o) = iI (K s o) := by rw [h13 _ (show s * 10 + o < 100 by omega), show (s * 10 + o) / 10 = s by omega, show (s * 10 + o) % 10 = o by omega]
    rw [l_M_moved_44, if_neg (show ¬ (10 : Int32) ≤ nI o from nI_ge (b := 10) ho (by decide))]
    simp only [if_neg c1, if_neg c2, let_s, nI_1]
    rw [nI_clamp (show o < 2 ^ 31 by omega), d1]
    by_cases q : hd o = 0
    · rw [if_pos (by rw [q]; rfl)]
      obtain ⟨z', b1, b2, b3, b4⟩ := lp_m44 (S := S) (V := V) hi hs hK g f (o + 1) z (by omega) (by omega) h h12 h13 (by rw [hz, mx_rs, if_pos q, Int.add_zero])
      exact ⟨z', b1, b2, b3, b4⟩
    · rw [if_neg (nI_ne0 (by omega) (by omega)), nI_clamp (show i < 2 ^ 31 by omega), h12, sl10, if_neg c3, f_fx h ho, bd2_s, nI_clamp (show s * 10 + o < 2 ^ 31 by omega), eK, jl_i (by omega) (by omega), hz, jl_mul, jl_sub, Int.sub_sub]
      have hf1 : fr [] [] [] [14] (s_J z 14 (vp_updL (z.2.2.2 14) i (jl (LSm (phi X) ld s - (mx_sum (List.range o) (fun o => if hd o = 0 then 0 else K s o * HS (phi X) ha o) + K s o * HS (phi X) ha o))))) z := fr_J _ _ (by decide)
      obtain ⟨z', b1, b2, b3, b4⟩ := lp_m44 (S := S) (V := V) hi hs hK g f (o + 1) (s_J z 14 (vp_updL (z.2.2.2 14) i (jl (LSm (phi X) ld s - (mx_sum (List.range o) (fun o => if hd o = 0 then 0 else K s o * HS (phi X) ha o) + K s o * HS (phi X) ha o))))) (by omega) (by omega) (rq_keep h hf1) h12 h13 (by rw [sJ_self, pk_uLs, mx_rs, if_neg q])
      refine ⟨z', b1, fr_tr b2 hf1, b3, fun j hj => ?_⟩
      rw [b4 j hj, sJ_self, pk_uLn hj]
/-- the number of the unknown at a slot, as the reference looks for it -/
def lix (us : Nat → Nat) (s : Nat) : Nat → Int32
  | 0 => -1
  | i + 1 => if us i = s then nI i else lix us s i
theorem lix_no {us : Nat → Nat} {s : Nat} : ∀ n, (∀ k, k < n → us k ≠ s) → lix us s n = -1
  | 0, _ => rfl
  | n + 1, h => by
    show (if us n = s then nI n else lix us s n) = -1
    rw [if_neg (h n (by omega))]
    exact lix_no n (fun k hk => h k (by omega))
theorem lix_at {us : Nat → Nat} {s i : Nat} (hi : us i = s) : ∀ n, i < n → (∀ k, k < n → us k = s → k = i) → lix us s n = nI i
  | n + 1, h1, h2 => by
    show (if us n = s then nI n else lix us s n) = nI i
    by_cases e : us n = s
    · rw [if_pos e, h2 n (by omega) e]
    · rw [if_neg e]
      exact lix_at hi n (by have : n ≠ i := fun q => e (q ▸ hi); omega) (fun k hk => h2 k (by omega))
theorem lp_m13 {ha : Nat → Int} {ld : Nat → Nat → Int} {hd us : Nat → Nat} {K : Nat → Nat → Int} {X : Int32} {n s : Nat} (hu : usF n us) (hs : s < 10) (hK : ∀ r, r < 10 → ∀ c, c < 10 → -1000 ≤ K r c ∧ K r c ≤ 1000) : ∀ (g f i : Nat) (z : gS), i + g = n → g < f → rq z ha ld hd → z.1 3 = nI n → (∀ k, k < n → z.2.2.1 12 k = nI (us k)) → (∀ k, k < 100 → z.2.2.1 13 k = iI (K (k / 10) (k % 10))) → (∀ k, k < i → z.2.2.2 14 k = jl (BS K hd (phi X) ha ld (us k))) → ∃ z', l_M_moved_13 f z X (nI s) (lix us s i) (nI i) = some (X, nI s, lix us s n, z') ∧ fr [] [] [] [14] z' z ∧ ∀ k, k < n → z'.2.2.2 14 k = jl (BS K hd (phi X) ha ld (us k))
  | 0, f + 1, i, z, hg, hf, h, h3, h12, h13, hz => by
    have hn := hu.1
    have : i = n := by omega
    subst this
    rw [l_M_moved_13, h3, if_pos (nI_le (Nat.le_refl _) (by omega))]
    exact ⟨z, rfl, fr_rf _ _ _ _ z, hz⟩
  | g + 1, f + 1, i, z, hg, hf, h, h3, h12, h13, hz => by
    have hn := hu.1
    have hi : i < n := by omega
    have hui := hu.2.1 i hi
    have c1 := ck_in (show i < 10 by omega) (by decide)
    rw [l_M_moved_13, h3, if_neg (nI_ge hi (by omega))]
    simp only [if_neg c1, let_s]
    rw [nI_clamp (show i < 2 ^ 31 by omega), h12 i hi, f_lo h hui, bd2_s]
    have hf1 : fr [] [] [] [14] (s_J z 14 (vp_updL (z.2.2.2 14) i (jl (LSm (phi X) ld (us i))))) z := fr_J _ _ (by decide)
    obtain ⟨z1, a1, a2, a3, a4⟩ := lp_m44 (X := X) (S := nI s) (V := lix us s i) (i := i) (K := K) (show i < 10 by omega) hui (hK _ hui) 10 200 0 (s_J z 14 (vp_updL (z.2.2.2 14) i (jl (LSm (phi X) ld (us i))))) rfl (by decide) (rq_keep h hf1) (h12 i hi) h13 (by rw [sJ_self, pk_uLs]; exact congrArg jl (Int.sub_zero _).symm)
    have a1' : l_M_moved_44 200 (s_J z 14 (vp_updL (z.2.2.2 14) i (jl (LSm (phi X) ld (us i))))) X (nI s) (lix us s i) (nI i) 0 = some (X, nI s, lix us s i, nI i, z1) := a1
    have hf2 := fr_tr a2 hf1
    rw [a1', bd5_s, if_neg c1, nI_clamp (show i < 2 ^ 31 by omega), hf2.2.2.1 12 (by decide), h12 i hi, nI_1]
    have next : ∃ z', l_M_moved_13 f z1 X (nI s) (lix us s (i + 1)) (nI (i + 1)) = some (X, nI s, lix us s n, z') ∧ fr [] [] [] [14] z' z ∧ ∀ k, k < n → z'.2.2.2 14 k = jl (BS K hd (phi X) ha ld (us k)) := by
      obtain ⟨z', b1, b2, b3⟩ := lp_m13 hu hs hK g f (i + 1) z1 (by omega) (by omega) (rq_keep h hf2) (by rw [hf2.1 3 (by decide)]; exact h3) (fun k hk => by rw [hf2.2.2.1 12 (by decide)]; exact h12 k hk) (fun k hk => by rw [hf2.2.2.1 13 (by decide)]; exact h13 k hk) (fun k hk => by
        by_cases e : k = i
        · rw [e]; exact a3
        · rw [a4 k e, sJ_self, pk_uLn e]; exact hz k (by omega))
      exact ⟨z', b1, fr_tr b2 hf2, b3⟩
    by_cases q : us i = s
    · rw [if_pos (by rw [q])]
      rw [show lix us s (i + 1) = nI i from if_pos q] at next
      exact next
    · rw [if_neg (fun e => q ((nI_eq (by omega) (by omega)).mp e))]
      rw [show lix us s (i + 1) = lix us s i from if_neg q] at next
      exact next
/-! bounds of the right side and of the solution -/
theorem mx_sum_rng {l : List Nat} {f : Nat → Int} {B : Int} (h : ∀ i ∈ l, -B ≤ f i ∧ f i ≤ B) : -((l.length : Int) * B) ≤ mx_sum l f ∧ mx_sum l f ≤ (l.length : Int) * B := by
  induction l with
  | nil =>
    show -((0 : Int) * B) ≤ 0 ∧ (0 : Int) ≤ (0 : Int) * B
    omega
  | cons a t ih =>
    obtain ⟨h1, h2⟩ := h a List.mem_cons_self
    obtain ⟨h3, h4⟩ := ih (fun i hi => h i (List.mem_cons_of_mem _ hi))
    have e : (((a :: t).length : Nat) : Int) * B = (t.length : Int) * B + B := by
      rw [List.length_cons, Int.natCast_add, Int.add_mul]
      show _ + 1 * B = _
      omega
    show _ ≤ f a + mx_sum t f ∧ f a + mx_sum t f ≤ _
    omega
theorem LS_rng {φ : Nat → Int} {ld : Nat → Nat → Int} {s : Nat} (hφ : ∀ c, c < 4 → -128 ≤ φ c ∧ φ c ≤ 128) (hl : ∀ c, c < 4 → -99 ≤ ld c s ∧ ld c s ≤ 99) : -50688 ≤ LSm φ ld s ∧ LSm φ ld s ≤ 50688 := by
  have h := mx_sum_rng (l := List.range 4) (f := fun c => φ c * ld c s) (B := 12672) (fun c hc => by
    have hc4 := List.mem_range.mp hc
    have := mulb (hφ c hc4).1 (hφ c hc4).2 (hl c hc4).1 (hl c hc4).2 (by decide)
    show -12672 ≤ φ c * ld c s ∧ φ c * ld c s ≤ 12672
    omega)
  rw [List.length_range] at h
  exact ⟨by have := h.1; unfold LSm; omega, by have := h.2; unfold LSm; omega⟩
theorem HS_rng {φ ha : Nat → Int} {s : Nat} (hφ : ∀ c, c < 4 → -128 ≤ φ c ∧ φ c ≤ 128) (hl : -9 ≤ ha s ∧ ha s ≤ 9) : -4608 ≤ HS φ ha s ∧ HS φ ha s ≤ 4608 := by
  have h := mx_sum_rng (l := List.range 4) (f := fun c => φ c * ha s) (B := 1152) (fun c hc => by
    have hc4 := List.mem_range.mp hc
    have := mulb (hφ c hc4).1 (hφ c hc4).2 hl.1 hl.2 (by decide)
    show -1152 ≤ φ c * ha s ∧ φ c * ha s ≤ 1152
    omega)
  rw [List.length_range] at h
  exact ⟨by have := h.1; unfold HS; omega, by have := h.2; unfold HS; omega⟩
theorem BS_rng {φ ha : Nat → Int} {ld : Nat → Nat → Int} {hd : Nat → Nat} {K : Nat → Nat → Int} {s : Nat} (hφ : ∀ c, c < 4 → -128 ≤ φ c ∧ φ c ≤ 128) (hl : ∀ c, c < 4 → -99 ≤ ld c s ∧ ld c s ≤ 99) (hh : ∀ d, d < 10 → -9 ≤ ha d ∧ ha d ≤ 9) (hK : ∀ d, d < 10 → -33 ≤ K s d ∧ K s d ≤ 33) : -1571328 ≤ BS K hd φ ha ld s ∧ BS K hd φ ha ld s ≤ 1571328 := by
  have h := mx_sum_rng (l := List.range 10) (f := fun o => if hd o = 0 then 0 else K s o * HS φ ha o) (B := 152064) (fun o ho => by
    have ho10 := List.mem_range.mp ho
    have h1 := HS_rng (φ := φ) (ha := ha) hφ (hh o ho10)
    have := mulb (hK o ho10).1 (hK o ho10).2 h1.1 h1.2 (by decide)
    show -152064 ≤ (if hd o = 0 then 0 else K s o * HS φ ha o) ∧ (if hd o = 0 then 0 else K s o * HS φ ha o) ≤ 152064
    by_cases q : hd o = 0
    · rw [if_pos q]; omega
    · rw [if_neg q]; omega)
  rw [List.length_range] at h
  have h2 := LS_rng (φ := φ) (ld := ld) hφ hl
  unfold BS
  omega
theorem sol_rng {pt fi se st sp us : Nat → Nat} {nb n : Nat} (hb : brF nb fi se st sp) (hu : usF n us) (hD : 0 < pd_D (AU pt fi se st sp us nb) (List.range n)) {y b : Nat → Int} (hbb : ∀ i, i < n → -1571328 ≤ b i ∧ b i ≤ 1571328) (hy : ∀ p, p < n → mx_sum (List.range n) (fun q => AU pt fi se st sp us nb p q * y q) = pd_D (AU pt fi se st sp us nb) (List.range n) * b p) {v : Nat} (hv : v < n) : -4611685975477714963 < 2 * y v ∧ 2 * y v < 4611685975477714963 := by
  have h := lk_bound (A := AU pt fi se st sp us nb) (l := List.range n) List.nodup_range (AU_sym _ _ _ _ _ _ _ _) (AU_rp hu (Nat.le_refl n)) hD (B := 137438953472) (fun w hw => AU_E hb hu (List.mem_range.mp hw)) (fun p hp => hy p (List.mem_range.mp hp)) (List.mem_range.mpr hv)
  have h2 := mx_sum_rng (l := List.range n) (f := fun p => mx_abs (b p)) (B := 1571328) (fun i hi => by
    have h1 := hbb i (List.mem_range.mp hi)
    have h3 := mx_abs_nn (b i)
    have h4 : mx_abs (b i) ≤ 1571328 := mx_abs_of h1.2 (by omega)
    show -1571328 ≤ mx_abs (b i) ∧ mx_abs (b i) ≤ 1571328
    omega)
  rw [List.length_range] at h2
  have hn := hu.1
  have h5 := mx_abs_le (x := y v)
  generalize mx_sum (List.range n) (fun p => mx_abs (b p)) = S at h h2
  omega
/-! the determinant and the displacements -/
theorem sealF {z1 z2 : gS} {mk nb : Nat} {pt fi se st hd sp : Nat → Nat} {ha : Nat → Int} {ld : Nat → Nat → Int} (hb : iv_b z1 z2 mk nb pt fi se st hd sp ha ld) (hs : SKd z1 mk nb pt fi se st hd sp) : ordF fi se nb mk ∧ usF (nU fi se hd nb mk) (uU fi se hd nb mk) ∧ (∀ i, i < nU fi se hd nb mk → hd (uU fi se hd nb mk i) = 0) ∧ (∀ n, n < 5 → bt5 mk n = 1 → ∀ d, d < 2 → hd (n * 2 + d) = 0 → ∃ i, i < nU fi se hd nb mk ∧ uU fi se hd nb mk i = n * 2 + d) ∧ brF nb fi se st sp ∧ 0 < pd_D (AU pt fi se st sp (uU fi se hd nb mk) nb) (List.range (nU fi se hd nb mk)) ∧ pd_D (AU pt fi se st sp (uU fi se hd nb mk) nb) (List.range (nU fi se hd nb mk)) < 1099511627776 ∧ pd_D (AU pt fi se st sp (uU fi se hd nb mk) nb) (List.range (nU fi se hd nb mk)) = dt (nU fi se hd nb mk) (AU pt fi se st sp (uU fi se hd nb mk) nb) := by
  obtain ⟨hk, _, _, _, _, _, _, _, _, _, hbr, hbb⟩ := ctx_of hb
  obtain ⟨hF, _⟩ := ord_F hbb (good_th hs.2.1) hk
  obtain ⟨hu, hu2, hu3⟩ := us_of (hd := hd) hF
  have hp := hs.2.2.2.2.2.2.2.2.1
  have h1 := AU_D (pt := pt) hbr hu (Nat.le_refl _)
  have h2 := hp _ (Nat.le_refl _)
  exact ⟨hF, hu, hu2, hu3, hbr, by omega, h1.2, lk_D _ (fun i hi => hp i (by omega))⟩
/-- the order and the matrix, made anew -/
theorem f_om {z1 z2 : gS} {mk nb : Nat} {pt fi se st hd sp : Nat → Nat} {ha : Nat → Int} {ld : Nat → Nat → Int} (hb : iv_b z1 z2 mk nb pt fi se st hd sp ha ld) : ∃ w y, f_M_makeOrder z2 = some w ∧ f_M_makeMatrix w = some y ∧ fr [2, 3] [] [11, 12, 13] [] y z2 ∧ iv_b z1 y mk nb pt fi se st hd sp ha ld ∧ y.1 3 = nI (nU fi se hd nb mk) ∧ (∀ i, i < nU fi se hd nb mk → y.2.2.1 12 i = nI (uU fi se hd nb mk i)) ∧ ∀ k, k < 100 → y.2.2.1 13 k = iI (KI pt fi se st sp nb (k / 10) (k % 10)) := by
  obtain ⟨hk, t1, hcx, hrx, hrb, hth, h9, h7, h11, h99, hbr, hbb⟩ := ctx_of hb
  obtain ⟨w, m1, m2, m3, m4, m5, m6, m7, m8⟩ := f_mo (hd := hd) hrb hk hth h7
  obtain ⟨y, v1, v2, v3⟩ := f_mm (sp := sp) (rx_keep hrx m2 (by decide) (by decide) (by decide) (by decide) (by decide) (by decide)) (fun d hd => by rw [m2.2.2.1 9 (by decide)]; exact h99 d hd)
  have frw : fr [2, 3] [] [11, 12, 13] [] y z2 := fr_tr (fr_w v2 (by decide) (by decide) (by decide) (by decide)) (fr_w m2 (by decide) (by decide) (by decide) (by decide))
  exact ⟨w, y, m1, v1, frw, ivb_2 hb frw (by decide) (fun k q1 q2 m => by have : ∀ x ∈ [11, 12, 13], 10 < x := (by decide); have := this _ m; omega), by rw [v2.1 3 (by decide)]; exact m7, fun i hi => by rw [v2.2.2.1 12 (by decide)]; exact m8 i hi, v3⟩
theorem f_mdt {z1 z2 : gS} {mk nb : Nat} {pt fi se st hd sp : Nat → Nat} {ha : Nat → Int} {ld : Nat → Nat → Int} (hb : iv_b z1 z2 mk nb pt fi se st hd sp ha ld) (hs : SKd z1 mk nb pt fi se st hd sp) (h1 : z2.1 1 = 1) : ∃ w, f_M_determinant z2 = some (jl (pd_D (AU pt fi se st sp (uU fi se hd nb mk) nb) (List.range (nU fi se hd nb mk))), w) ∧ fr [2, 3] [] [11, 12, 13] [14, 15] w z2 := by
  obtain ⟨hF, hu, hu2, hu3, hbr, d0, d9, dd⟩ := sealF hb hs
  obtain ⟨w, y, m1, m2, m3, m4, m5, m6, m7⟩ := f_om hb
  unfold f_M_determinant
  rw [h1, if_neg (by decide), m1, bd1_s, m2, bd1_s, m5]
  have hdx : dxx y (nU fi se hd nb mk) (uU fi se hd nb mk) (KI pt fi se st sp nb) (fun i => (y.2.2.2 14 i).toInt) := dxx_of hbr hu m6 m7 (fun i _ => ⟨jl_of _, by have := Int64.le_toInt (y.2.2.2 14 i); omega, by have := Int64.toInt_lt (y.2.2.2 14 i); omega⟩)
  rw [dd] at d0 d9
  obtain ⟨y2, u1, u2⟩ := f_det (col := -1) (us := uU fi se hd nb mk) (K := KI pt fi se st sp nb) (A := AU pt fi se st sp (uU fi se hd nb mk) nb) hu.1 (col_m1 (fun i j => rfl) hu.1) hdx (by omega) (by omega)
  rw [u1, bd2_s, dd]
  exact ⟨y2, rfl, fr_tr (fr_w u2 (by decide) (by decide) (by decide) (by decide)) (fr_w m3 (by decide) (by decide) (by decide) (by decide))⟩
theorem f_mvd {z1 z2 : gS} {mk nb : Nat} {pt fi se st hd sp : Nat → Nat} {ha : Nat → Int} {ld : Nat → Nat → Int} (hb : iv_b z1 z2 mk nb pt fi se st hd sp ha ld) (hs : SKd z1 mk nb pt fi se st hd sp) (X : Int32) {y : Nat → Int} (hy : ∀ p, p < nU fi se hd nb mk → mx_sum (List.range (nU fi se hd nb mk)) (fun q => AU pt fi se st sp (uU fi se hd nb mk) nb p q * y q) = pd_D (AU pt fi se st sp (uU fi se hd nb mk) nb) (List.range (nU fi se hd nb mk)) * BS (KI pt fi se st sp nb) hd (phi X) ha ld (uU fi se hd nb mk p)) {s : Nat} (h10 : s < 10) : (∀ i, i < nU fi se hd nb mk → uU fi se hd nb mk i = s → ∃ w, f_M_moved z2 X (nI s) = some (jl (y i), w) ∧ fr [2, 3] [] [11, 12, 13] [14, 15] w z2) ∧ (¬ hd s = 0 → ∃ w, f_M_moved z2 X (nI s) = some (jl (HS (phi X) ha s * pd_D (AU pt fi se st sp (uU fi se hd nb mk) nb) (List.range (nU fi se hd nb mk))), w) ∧ fr [2, 3] [] [11, 12, 13] [14, 15] w z2) := by
  obtain ⟨hF, hu, hu2, hu3, hbr, d0, d9, dd⟩ := sealF hb hs
  obtain ⟨w, y0, m1, m2, m3, m4, m5, m6, m7⟩ := f_om hb
  have hrq := rq_of m4
  have hn := hu.1
  have hKr : ∀ r, r < 10 → ∀ c, -33 ≤ KI pt fi se st sp nb r c ∧ KI pt fi se st sp nb r c ≤ 33 := fun r hr c => by
    have := K_rng (pt := pt) (fi := fi) (se := se) (st := st) hbr.2.2 hr c nb (fun k hk => (hbr.2.1 k hk).1)
    have := hbr.1
    omega
  obtain ⟨x, l1, l2, l3⟩ := lp_m13 (X := X) hu h10 (fun r hr c _ => by have := hKr r hr c; omega) (nU fi se hd nb mk) 200 0 y0 (by omega) (by omega) hrq m5 m6 m7 (fun k hk => absurd hk (Nat.not_lt_zero k))
  have l1' : l_M_moved_13 200 y0 X (nI s) (-1) 0 = some (X, nI s, lix (uU fi se hd nb mk) s (nU fi se hd nb mk), x) := l1
  have frx : fr [2, 3] [] [11, 12, 13] [14, 15] x z2 := fr_tr (fr_w l2 (by decide) (by decide) (by decide) (by decide)) (fr_w m3 (by decide) (by decide) (by decide) (by decide))
  have hBr : ∀ i, i < nU fi se hd nb mk → -1571328 ≤ BS (KI pt fi se st sp nb) hd (phi X) ha ld (uU fi se hd nb mk i) ∧ BS (KI pt fi se st sp nb) hd (phi X) ha ld (uU fi se hd nb mk i) ≤ 1571328 := fun i hi => BS_rng (fun c _ => phi_r X c) (fun c hc => ((hrq.2.1 c hc _ (hu.2.1 i hi)).2)) (fun d hd => (hrq.1 d hd).2) (fun d _ => hKr _ (hu.2.1 i hi) d)
  have hdx : dxx x (nU fi se hd nb mk) (uU fi se hd nb mk) (KI pt fi se st sp nb) (fun i => BS (KI pt fi se st sp nb) hd (phi X) ha ld (uU fi se hd nb mk i)) := dxx_of hbr hu (fun i hi => by rw [l2.2.2.1 12 (by decide)]; exact m6 i hi) (fun k hk => by rw [l2.2.2.1 13 (by decide)]; exact m7 k hk) (fun i hi => ⟨l3 i hi, by have := hBr i hi; omega, by have := hBr i hi; omega⟩)
  have hx3 : x.1 3 = nI (nU fi se hd nb mk) := by rw [l2.1 3 (by decide)]; exact m5
  unfold f_M_moved
  rw [m1, bd1_s, m2, bd1_s, l1', bd4_s]
  constructor
  · intro i hi his
    rw [lix_at his _ hi (fun k hk e => us_eq hu hk hi (e.trans his.symm)), if_pos (nI_pos' (by omega)), hx3]
    have hdt : dt (nU fi se hd nb mk) (dt_pc (AU pt fi se st sp (uU fi se hd nb mk) nb) i (fun p => BS (KI pt fi se st sp nb) hd (phi X) ha ld (uU fi se hd nb mk p))) = y i := by
      have h := dt_cramer (K := AU pt fi se st sp (uU fi se hd nb mk) nb) hy hi
      rw [← dd, Int.mul_comm (y i)] at h
      exact Int.eq_of_mul_eq_mul_left (by omega) h
    have hr := sol_rng hbr hu d0 hBr hy hi
    obtain ⟨w2, u1, u2⟩ := f_det (z := x) (col := nI i) (us := uU fi se hd nb mk) (K := KI pt fi se st sp nb) (A := dt_pc (AU pt fi se st sp (uU fi se hd nb mk) nb) i (fun p => BS (KI pt fi se st sp nb) hd (phi X) ha ld (uU fi se hd nb mk p))) hn (fun p hp q hq => by
      show (if q = i then _ else AU pt fi se st sp (uU fi se hd nb mk) nb p q) = _
      by_cases e : q = i
      · rw [if_pos e, if_pos (by rw [e])]
      · rw [if_neg e, if_neg (fun c => e ((nI_eq (by omega) (by omega)).mp c))]
        rfl) hdx (by rw [hdt]; exact hr.1) (by rw [hdt]; exact hr.2)
    rw [u1, bd2_s, hdt]
    exact ⟨w2, rfl, fr_tr (fr_w u2 (by decide) (by decide) (by decide) (by decide)) frx⟩
  · intro hh
    rw [lix_no _ (fun k hk e => hh (by rw [← e]; exact hu2 k hk)), if_neg (by decide), f_fx (rq_keep hrq l2) h10, bd2_s, hx3]
    have d0' := d0
    have d9' := d9
    rw [dd] at d0' d9'
    obtain ⟨w2, u1, u2⟩ := f_det (z := x) (col := -1) (us := uU fi se hd nb mk) (K := KI pt fi se st sp nb) (A := AU pt fi se st sp (uU fi se hd nb mk) nb) hn (col_m1 (fun i j => rfl) hn) hdx (by omega) (by omega)
    rw [u1, bd2_s, jl_mul, dd]
    exact ⟨w2, rfl, fr_tr (fr_w u2 (by decide) (by decide) (by decide) (by decide)) frx⟩
