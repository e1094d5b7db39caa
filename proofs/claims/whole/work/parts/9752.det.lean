/-! The reference's determinant -/
def dxx (z : gS) (n : Nat) (us : Nat → Nat) (K : Nat → Nat → Int) (b : Nat → Int) : Prop := (∀ i, i < n → z.2.2.1 12 i = nI (us i) ∧ us i < 10) ∧ (∀ k, k < 100 → z.2.2.1 13 k = iI (K (k / 10) (k % 10))) ∧ (∀ r, r < 10 → ∀ c, c < 10 → -1000 ≤ K r c ∧ K r c ≤ 1000) ∧ ∀ i, i < n → z.2.2.2 14 i = jl (b i) ∧ -9223372036854775808 ≤ b i ∧ b i < 9223372036854775808
theorem dxx_keep {z y : gS} {n : Nat} {us : Nat → Nat} {K : Nat → Nat → Int} {b : Nat → Int} (h : dxx y n us K b) (hf : fr [] [] [] [15] z y) : dxx z n us K b := ⟨fun i hi => by rw [hf.2.2.1 12 (by decide)]; exact h.1 i hi, fun k hk => by rw [hf.2.2.1 13 (by decide)]; exact h.2.1 k hk, h.2.2.1, fun i hi => by rw [hf.2.2.2 14 (by decide)]; exact h.2.2.2 i hi⟩
theorem lp_m3 {n p : Nat} {P : Int64} {col : Int32} (hP : gdP P p) (hn : n ≤ 10) {us : Nat → Nat} {K A : Nat → Nat → Int} {b : Nat → Int} (hA : ∀ i, i < n → ∀ j, j < n → A i j = if nI j = col then b i else K (us i) (us j)) : ∀ (g f k : Nat) (z : gS), k + g = n * n → g < f → dxx z n us K b → (∀ m, m < k → z.2.2.2 15 (m / n * 10 + m % n) = jl (A (m / n) (m % n) % p)) → ∃ z', l_M_modulo_3 f z (nI n) col P (nI k) = some (nI n, P, z') ∧ fr [] [] [] [15] z' z ∧ ∀ m, m < n * n → z'.2.2.2 15 (m / n * 10 + m % n) = jl (A (m / n) (m % n) % p)
  | 0, f + 1, k, z, hg, hf, hx, hz => by
    have hnn : n * n ≤ 100 := Nat.mul_le_mul hn hn
    have : k = n * n := by omega
    subst this
    rw [l_M_modulo_3, pk_mul, if_pos (nI_le (Nat.le_refl _) (by omega))]
    exact ⟨z, rfl, fr_rf _ _ _ _ z, hz⟩
  | g + 1, f + 1, k, z, hg, hf, hx, hz => by
    have hnn : n * n ≤ 100 := Nat.mul_le_mul hn hn
    have hp2 := hP.2.2.1
    have hp3 := hP.2.2.2.1
    have hk : k < n * n := by omega
    have n0 : 0 < n := by
      rcases Nat.eq_zero_or_pos n with e | e
      · rw [e] at hk; omega
      · exact e
    have hi : k / n < n := Nat.div_lt_of_lt_mul hk
    have hj : k % n < n := Nat.mod_lt _ n0
    have ed : nI k / nI n = nI (k / n) := pk_div (by omega) n0 (by omega)
    have er : nI k - nI (k / n) * nI n = nI (k % n) := by rw [← ed]; exact pk_rem (by omega) n0 (by omega)
    have hn0 : ¬ nI n = 0 := nI_ne0 n0 (by omega)
    have hp0 : ¬ P = 0 := fun e => by
      rw [hP.1] at e
      have := (jl_z (by omega) (by omega)).mp e
      omega
    have c1 := ck_in (show k / n < 10 by omega) (by decide)
    have c2 := ck_in (show k % n < 10 by omega) (by decide)
    have c3 := ck_in (show k / n * 10 + k % n < 100 by omega) (by decide)
    obtain ⟨u1, u2⟩ := hx.1 _ hi
    obtain ⟨v1, v2⟩ := hx.1 _ hj
    have c4 := ck_in (show us (k / n) * 10 + us (k % n) < 100 by omega) (by decide)
    obtain ⟨b1, b2, b3⟩ := hx.2.2.2 _ hi
    have hK := hx.2.2.1 _ u2 _ v2
    have eK : z.2.2.1 13 (us (k / n) * 10 + us (k % n)) = iI (K (us (k / n)) (us (k % n))) := by
      rw [hx.2.1 _ (show us (k / n) * 10 + us (k % n) < 100 by omega), show (us (k / n) * 10 + us (k % n)) / 10 = us (k / n) by omega, show (us (k / n) * 10 + us (k % n)) % 10 = us (k % n) by omega]
    have next : ∃ z', l_M_modulo_3 f (s_J z 15 (vp_updL (z.2.2.2 15) (k / n * 10 + k % n) (jl (A (k / n) (k % n) % p)))) (nI n) col P (nI (k + 1)) = some (nI n, P, z') ∧ fr [] [] [] [15] z' z ∧ ∀ m, m < n * n → z'.2.2.2 15 (m / n * 10 + m % n) = jl (A (m / n) (m % n) % p) := by
      have hf1 : fr [] [] [] [15] (s_J z 15 (vp_updL (z.2.2.2 15) (k / n * 10 + k % n) (jl (A (k / n) (k % n) % p)))) z := fr_J _ _ (by decide)
      obtain ⟨z', d1, d2, d3⟩ := lp_m3 hP hn hA g f (k + 1) _ (by omega) (by omega) (dxx_keep hx hf1) (fun m hm => by
        rw [sJ_self]
        by_cases e : m = k
        · rw [e, pk_uLs]
        · have hmn : m % n < n := Nat.mod_lt _ n0
          have e1 := Nat.div_add_mod m n
          have e2 := Nat.div_add_mod k n
          rw [pk_uLn (fun q => e (by
            have q1 : m / n = k / n := by omega
            have q2 : m % n = k % n := by omega
            rw [← e1, ← e2, q1, q2]))]
          exact hz m (by omega))
      exact ⟨z', d1, fr_tr d2 hf1, d3⟩
    rw [l_M_modulo_3, pk_mul, if_neg (nI_ge hk (by omega))]
    simp only [if_neg hn0, let_s, ed, er, if_neg hp0, if_neg c1, if_neg c2, sl10, if_neg c3, nI_1]
    simp only [nI_clamp (show k / n < 2 ^ 31 by omega), nI_clamp (show k % n < 2 ^ 31 by omega), u1, v1, sl10, b1]
    simp only [if_neg c4]
    simp only [nI_clamp (show us (k / n) * 10 + us (k % n) < 2 ^ 31 by omega), nI_clamp (show k / n * 10 + k % n < 2 ^ 31 by omega), eK]
    by_cases q : nI (k % n) = col
    · rw [if_pos q, hP.1, jl_md b2 b3 (by omega) (by omega), ← hP.1]
      rw [hA _ hi _ hj, if_pos q] at next
      exact next
    · rw [if_neg q, jl_i (by omega) (by omega), hP.1, jl_md (by omega) (by omega) (by omega) (by omega), ← hP.1]
      rw [hA _ hi _ hj, if_neg q] at next
      exact next
theorem f_mdl {z : gS} {n p : Nat} {P : Int64} {col : Int32} (hP : gdP P p) (hn : n ≤ 10) {us : Nat → Nat} {K A : Nat → Nat → Int} {b : Nat → Int} (hA : ∀ i, i < n → ∀ j, j < n → A i j = if nI j = col then b i else K (us i) (us j)) (hx : dxx z n us K b) : ∃ z', f_M_modulo z (nI n) col P = some (jl (dt n A % p), z') ∧ fr [] [] [] [15] z' z := by
  have hnn : n * n ≤ 100 := Nat.mul_le_mul hn hn
  have hp2 := hP.2.2.1
  have hp3 := hP.2.2.2.1
  have hp0 : ¬ P = 0 := fun e => by
    rw [hP.1] at e
    have := (jl_z (by omega) (by omega)).mp e
    omega
  unfold f_M_modulo
  obtain ⟨z1, a1, a2, a3⟩ := lp_m3 hP hn hA (n * n) 200 0 z (by omega) (by omega) hx (fun m hm => absurd hm (Nat.not_lt_zero m))
  have a1' : l_M_modulo_3 200 z (nI n) col P 0 = some (nI n, P, z1) := a1
  rw [a1', bd3_s]
  have hW : WK z1 n p (fun i j => A i j % p) := fun i hi j hj => by
    have hm : n * i + j < n * n := by
      have := Nat.mul_le_mul_left n (show i + 1 ≤ n by omega)
      rw [Nat.mul_add, Nat.mul_one] at this
      omega
    have := a3 (n * i + j) hm
    rw [Nat.mul_add_div (by omega), Nat.mul_add_mod, Nat.div_eq_of_lt hj, Nat.mod_eq_of_lt hj, Nat.add_zero] at this
    exact ⟨this, Int.emod_nonneg _ (by omega), Int.emod_lt_of_pos _ (by omega)⟩
  obtain ⟨e, d', z2, b1, b2, b3⟩ := lp_elm hP hn n 200 0 z1 1 (fun i j => A i j % p) (by omega) (by omega) hW (by omega) (by omega)
  have b1' : l_M_modulo_98 200 z1 (nI n) P 1 0 = some (e, P, jl d', z2) := b1
  rw [b1', bd4_s]
  obtain ⟨u, hu⟩ : (p : Int) ∣ dt n (fun i j => A i j % p) - dt n A := dt_mod n (fun i _ j _ => by
    have := Int.mul_ediv_add_emod (A i j) p
    exact ⟨- (A i j / p), by rw [Int.mul_neg]; omega⟩)
  rw [Nat.sub_zero, show tr 0 (fun i j => A i j % (p : Int)) = (fun i j => A i j % (p : Int)) from rfl] at b3
  generalize dt n (fun i j => A i j % (p : Int)) = D1 at hu b3
  rcases b3 with ⟨rfl, v, hv⟩ | ⟨rfl, c1, c2, v, hv⟩
  · rw [if_pos rfl]
    refine ⟨z2, ?_, fr_tr b2 a2⟩
    rw [Int.emod_eq_zero_of_dvd (show (p : Int) ∣ dt n A from ⟨v - u, by rw [Int.mul_sub]; omega⟩)]
    rfl
  · have e9 : d' % (p : Int) = dt n A % p := by
      rw [Int.emod_eq_emod_iff_emod_sub_eq_zero]
      exact Int.emod_eq_zero_of_dvd ⟨v + u, by rw [Int.mul_add]; omega⟩
    rw [if_neg (by decide), if_neg hp0, hP.1, jl_rm c1 (by omega) (by omega) (by omega), e9]
    exact ⟨z2, rfl, fr_tr b2 a2⟩
theorem crt_end {v a b t iv x : Int} (ha : a = v % 2147483647) (hb : b = v % 2147483629) (hi : ∃ u, 18 * iv - 1 = 2147483629 * u) (ht : t = (b - a) % 2147483629 * iv % 2147483629) (hx : x = a + 2147483647 * t) (h1 : -4611685975477714963 < 2 * v) (h2 : 2 * v < 4611685975477714963) : 0 ≤ x ∧ x < 4611685975477714963 ∧ (x ≤ 2305842987738857481 → x = v) ∧ (¬ x ≤ 2305842987738857481 → x - 4611685975477714963 = v) := by
  obtain ⟨u, hu⟩ := hi
  have a1 : 0 ≤ a := by omega
  have a2 : a < 2147483647 := by omega
  have t1 : 0 ≤ t := by rw [ht]; exact Int.emod_nonneg _ (by decide)
  have t2 : t < 2147483629 := by rw [ht]; exact Int.emod_lt_of_pos _ (by decide)
  have e1 := Int.mul_ediv_add_emod v 2147483647
  have e2 := Int.mul_ediv_add_emod v 2147483629
  have e3 := Int.mul_ediv_add_emod (b - a) 2147483629
  have e4 := Int.mul_ediv_add_emod ((b - a) % 2147483629 * iv) 2147483629
  rw [← ha] at e1
  rw [← hb] at e2
  rw [← ht] at e4
  generalize v / 2147483647 = q1 at e1
  generalize v / 2147483629 = q2 at e2
  generalize (b - a) / 2147483629 = q3 at e3
  generalize (b - a) % 2147483629 = m at e3 e4
  generalize m * iv / 2147483629 = q4 at e4
  -- t - q1 is a multiple of the second
  have hm : m = 18 * q1 + 2147483629 * (q1 - q2 - q3) := by omega
  have h18 : 18 * iv = 1 + 2147483629 * u := by omega
  have e5 : m * iv = q1 * (18 * iv) + 2147483629 * (iv * (q1 - q2 - q3)) := by rw [hm]; grind
  have e6 : q1 * (1 + 2147483629 * u) = q1 + 2147483629 * (q1 * u) := by grind
  rw [h18, e6] at e5
  have k2 : t - q1 = 2147483629 * (q1 * u + iv * (q1 - q2 - q3) - q4) := by
    generalize q1 * u = y1 at e5 ⊢
    generalize iv * (q1 - q2 - q3) = y2 at e5 ⊢
    generalize m * iv = y3 at e5 e4
    omega
  generalize q1 * u + iv * (q1 - q2 - q3) - q4 = k at k2
  have k3 : x - v = 4611685975477714963 * k := by omega
  refine ⟨by omega, by omega, fun h => ?_, fun h => ?_⟩
  · have : k = 0 := by omega
    omega
  · have : k = 1 := by omega
    omega
theorem f_det {z : gS} {n : Nat} {col : Int32} (hn : n ≤ 10) {us : Nat → Nat} {K A : Nat → Nat → Int} {b : Nat → Int} (hA : ∀ i, i < n → ∀ j, j < n → A i j = if nI j = col then b i else K (us i) (us j)) (hx : dxx z n us K b) (h1 : -4611685975477714963 < 2 * dt n A) (h2 : 2 * dt n A < 4611685975477714963) : ∃ z', f_M_det z (nI n) col = some (jl (dt n A), z') ∧ fr [] [] [] [15] z' z := by
  unfold f_M_det
  obtain ⟨z1, a1, a2⟩ := f_mdl gd_p hn hA hx
  obtain ⟨z2, b1, b2⟩ := f_mdl gd_q hn hA (dxx_keep hx a2)
  obtain ⟨iv, i1, i2, i3, u, hu⟩ := f_inv (z := z2) gd_q (x := 18) (by decide) (by decide)
  have i1' : f_M_powered z2 ((2147483647 : Int64) - (2147483647 : Int64) / (2147483629 : Int64) * (2147483629 : Int64)) ((2147483629 : Int64) - (2 : Int64)) (2147483629 : Int64) = some (jl iv, z2) := i1
  rw [a1, bd2_s, b1, bd2_s, i1', bd2_s]
  have eq : (2147483629 : Int64) = jl 2147483629 := rfl
  have ep : (2147483647 : Int64) = jl 2147483647 := rfl
  have a0 := Int.emod_nonneg (dt n A) (show (2147483647 : Int) ≠ 0 by decide)
  have a9 := Int.emod_lt_of_pos (dt n A) (show (0 : Int) < 2147483647 by decide)
  have b0 := Int.emod_nonneg (dt n A) (show (2147483629 : Int) ≠ 0 by decide)
  have b9 := Int.emod_lt_of_pos (dt n A) (show (0 : Int) < 2147483629 by decide)
  have ha : dt n A % ((2147483647 : Nat) : Int) = dt n A % 2147483647 := rfl
  have hb : dt n A % ((2147483629 : Nat) : Int) = dt n A % 2147483629 := rfl
  rw [ha, hb, eq, ep, jl_sub]
  generalize hav : dt n A % 2147483647 = a at a0 a9 ⊢
  generalize hbv : dt n A % 2147483629 = c at b0 b9 ⊢
  rw [jl_md (by omega) (by omega) (by decide) (by decide)]
  have m0 := Int.emod_nonneg (c - a) (show (2147483629 : Int) ≠ 0 by decide)
  have m9 := Int.emod_lt_of_pos (c - a) (show (0 : Int) < 2147483629 by decide)
  obtain ⟨p1, p2⟩ := m62 (a := (c - a) % 2147483629) (b := iv) m0 (by omega) i2 (by omega)
  rw [jl_mul, jl_rm p1 (by omega) (by decide) (by decide), let_s, jl_mul, jl_add, let_s]
  have hu2 : (18 : Int) * iv - 1 = 2147483629 * u := hu
  obtain ⟨x0, x9, x1, x2⟩ := crt_end (v := dt n A) hav.symm hbv.symm ⟨u, hu2⟩ rfl rfl h1 h2
  generalize a + 2147483647 * ((c - a) % 2147483629 * iv % 2147483629) = x at x0 x9 x1 x2 ⊢
  rw [jl_mul]
  have eh : jl (2147483647 * 2147483629) / (2 : Int64) = jl 2305842987738857481 := by decide +kernel
  rw [eh]
  have hle : jl x ≤ jl 2305842987738857481 ↔ x ≤ 2305842987738857481 := by
    rw [Int64.le_iff_toInt_le, jl_toInt (by omega) (by omega), jl_toInt (by decide) (by decide)]
  by_cases q : x ≤ 2305842987738857481
  · rw [if_pos ((lg_cmp_le _ _).mpr (hle.mpr q)), x1 q]
    exact ⟨z2, rfl, fr_tr b2 a2⟩
  · rw [if_neg (fun e => q (hle.mp ((lg_cmp_le _ _).mp e))), jl_sub, show (2147483647 : Int) * 2147483629 = 4611685975477714963 from rfl, x2 q]
    exact ⟨z2, rfl, fr_tr b2 a2⟩
