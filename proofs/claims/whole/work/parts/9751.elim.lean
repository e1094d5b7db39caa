/-! Elimination modulo p, as the reference does it -/
theorem dt_mod {p : Int} : ∀ (n : Nat) {M N : Nat → Nat → Int}, (∀ i, i < n → ∀ j, j < n → p ∣ M i j - N i j) → p ∣ dt n M - dt n N
  | 0, _, _, _ => ⟨0, by show (1 : Int) - 1 = p * 0; omega⟩
  | n + 1, M, N, h => by
    simp only [dt]
    have key : ∀ l : List Nat, (∀ i ∈ l, i < n + 1) → p ∣ mx_sum l (fun i => pd_sg i * M i 0 * dt n (fun a b => M (dt_sk i a) (b + 1))) - mx_sum l (fun i => pd_sg i * N i 0 * dt n (fun a b => N (dt_sk i a) (b + 1))) := by
      intro l
      induction l with
      | nil => intro _; exact ⟨0, by simp only [mx_sum]; omega⟩
      | cons i t ih =>
        intro hl
        obtain ⟨u, hu⟩ := ih (fun k hk => hl k (List.mem_cons_of_mem _ hk))
        have hi := hl i List.mem_cons_self
        obtain ⟨v, hv⟩ := h i hi 0 (by omega)
        obtain ⟨w, hw⟩ := dt_mod n (M := fun a b => M (dt_sk i a) (b + 1)) (N := fun a b => N (dt_sk i a) (b + 1)) (fun a ha b hb => h _ (dt_sk_lt ha) (b + 1) (by omega))
        simp only [mx_sum]
        refine ⟨u + pd_sg i * (v * dt n (fun a b => M (dt_sk i a) (b + 1)) + N i 0 * w), ?_⟩
        grind
    exact key _ (fun i hi => List.mem_range.mp hi)
def WK (z : gS) (n : Nat) (p : Int) (W : Nat → Nat → Int) : Prop := ∀ i, i < n → ∀ j, j < n → z.2.2.2 15 (i * 10 + j) = jl (W i j) ∧ 0 ≤ W i j ∧ W i j < p
theorem WK_c {z : gS} {n : Nat} {p : Int} {W V : Nat → Nat → Int} (h : WK z n p W) (e : ∀ i, i < n → ∀ j, j < n → V i j = W i j) : WK z n p V := fun i hi j hj => by rw [e i hi j hj]; exact h i hi j hj
theorem WK_at {z : gS} {n : Nat} {p : Int} {W : Nat → Nat → Int} (h : WK z n p W) {i j : Nat} (hi : i < n) (hj : j < n) {v : Int} (e : W i j = v) : z.2.2.2 15 (i * 10 + j) = jl v ∧ 0 ≤ v ∧ v < p := e ▸ h i hi j hj
theorem WK_mk {z : gS} {n : Nat} {p : Int} {W : Nat → Nat → Int} (h : ∀ i, i < n → ∀ j, j < n → ∃ v, W i j = v ∧ z.2.2.2 15 (i * 10 + j) = jl v ∧ 0 ≤ v ∧ v < p) : WK z n p W := fun i hi j hj => by
  obtain ⟨v, e, h1⟩ := h i hi j hj
  rw [e]
  exact h1
def swp (a b i : Nat) : Nat := if i = a then b else if i = b then a else i
theorem lp_ex {a b : Nat} (ha : a < 10) (hb : b < 10) {G : Nat → Int64} : ∀ (g f c : Nat) (z : gS), c + g = 10 → g < f → (∀ i, i < 10 → ∀ j, j < 10 → z.2.2.2 15 (i * 10 + j) = if j < c then G (swp a b i * 10 + j) else G (i * 10 + j)) → ∃ z', l_M_exchange_2 f z (nI a) (nI b) (nI c) = some z' ∧ fr [] [] [] [15] z' z ∧ ∀ i, i < 10 → ∀ j, j < 10 → z'.2.2.2 15 (i * 10 + j) = G (swp a b i * 10 + j)
  | 0, f + 1, c, z, hg, hf, hz => by
    have : c = 10 := by omega
    subst this
    rw [l_M_exchange_2, if_pos (by decide)]
    exact ⟨z, rfl, fr_rf _ _ _ _ z, fun i hi j hj => by rw [hz i hi j hj, if_pos hj]⟩
  | g + 1, f + 1, c, z, hg, hf, hz => by
    have hc : c < 10 := by omega
    have c1 := ck_in (show a * 10 + c < 100 by omega) (by decide)
    have c2 := ck_in (show b * 10 + c < 100 by omega) (by decide)
    have ea : z.2.2.2 15 (a * 10 + c) = G (a * 10 + c) := by rw [hz a ha c hc, if_neg (by omega)]
    have eb : z.2.2.2 15 (b * 10 + c) = G (b * 10 + c) := by rw [hz b hb c hc, if_neg (by omega)]
    rw [l_M_exchange_2, if_neg (show ¬ (10 : Int32) ≤ nI c from nI_ge (b := 10) hc (by decide))]
    simp only [sl10, let_s, if_neg c1, if_neg c2]
    simp only [nI_clamp (show a * 10 + c < 2 ^ 31 by omega), nI_clamp (show b * 10 + c < 2 ^ 31 by omega), sJ_self, ea, eb, nI_1]
    generalize hw : s_J (s_J z 15 (vp_updL (z.2.2.2 15) (a * 10 + c) (G (b * 10 + c)))) 15 (vp_updL (vp_updL (z.2.2.2 15) (a * 10 + c) (G (b * 10 + c))) (b * 10 + c) (G (a * 10 + c))) = w
    have hf1 : fr [] [] [] [15] w z := by
      rw [← hw]
      exact fr_tr (fr_J _ _ (by decide)) (fr_J _ _ (by decide))
    obtain ⟨z', b1, b2, b3⟩ := lp_ex ha hb g f (c + 1) w (by omega) (by omega) (fun i hi j hj => by
      rw [← hw, sJ_self]
      by_cases e1 : i * 10 + j = b * 10 + c
      · have i1 : i = b := by omega
        have j1 : j = c := by omega
        rw [e1, pk_uLs, if_pos (by omega), i1, j1]
        unfold swp
        by_cases q : b = a
        · rw [if_pos q, q]
        · rw [if_neg q, if_pos rfl]
      · rw [pk_uLn e1]
        by_cases e2 : i * 10 + j = a * 10 + c
        · have i1 : i = a := by omega
          have j1 : j = c := by omega
          rw [e2, pk_uLs, if_pos (by omega), i1, j1]
          unfold swp
          rw [if_pos rfl]
        · rw [pk_uLn e2, hz i hi j hj]
          by_cases q : j < c
          · rw [if_pos q, if_pos (by omega)]
          · rw [if_neg q]
            by_cases q2 : j = c
            · rw [if_pos (by omega)]
              unfold swp
              rw [if_neg (by omega), if_neg (by omega)]
            · rw [if_neg (by omega)])
    exact ⟨z', b1, fr_tr b2 hf1, b3⟩
theorem swp_lt {a b n i : Nat} (ha : a < n) (hb : b < n) (hi : i < n) : swp a b i < n := by
  unfold swp
  by_cases q : i = a
  · rw [if_pos q]; exact hb
  · rw [if_neg q]
    by_cases q2 : i = b
    · rw [if_pos q2]; exact ha
    · rw [if_neg q2]; exact hi
theorem f_ex {z : gS} {n a b : Nat} {p : Int} {W : Nat → Nat → Int} (hn : n ≤ 10) (ha : a < n) (hb : b < n) (h : WK z n p W) : ∃ z', f_M_exchange z (nI a) (nI b) = some z' ∧ fr [] [] [] [15] z' z ∧ WK z' n p (fun i j => W (swp a b i) j) := by
  unfold f_M_exchange
  obtain ⟨z', b1, b2, b3⟩ := lp_ex (a := a) (b := b) (G := z.2.2.2 15) (by omega) (by omega) 10 200 0 z rfl (by decide) (fun i hi j hj => by rw [if_neg (by omega)])
  have b1' : l_M_exchange_2 200 z (nI a) (nI b) 0 = some z' := b1
  rw [b1', bd1_s]
  exact ⟨z', rfl, b2, fun i hi j hj => by rw [b3 i (by omega) j (by omega)]; exact h _ (swp_lt ha hb hi) j hj⟩
/-- one entry of a row that is cleared -/
def clE (p fa x y : Int) : Int := (x + (p - fa) * y) % p
theorem lp_cl1 {n c r : Nat} {p fa : Int} {X5 : Int64} (hn : n ≤ 10) (hc : c < n) (hr : r < n) (hrc : r ≠ c) (hp : 0 < p) (hp2 : p < 2147483648) (hf0 : 0 ≤ fa) (hf1 : fa < p) {W : Nat → Nat → Int} : ∀ (g f j : Nat) (z : gS), j + g = n → g < f → c ≤ j → WK z n p (fun i k => if i = r ∧ c ≤ k ∧ k < j then clE p fa (W r k) (W c k) else W i k) → ∃ z', l_M_clear_56 f z (nI c) (nI n) (jl p) X5 (nI r) (jl fa) (nI j) = some (nI c, nI n, jl p, X5, nI r, z') ∧ fr [] [] [] [15] z' z ∧ WK z' n p (fun i k => if i = r ∧ c ≤ k then clE p fa (W r k) (W c k) else W i k)
  | 0, f + 1, j, z, hg, hf, hcj, hz => by
    have : j = n := by omega
    subst this
    rw [l_M_clear_56, if_pos (nI_le (Nat.le_refl _) (by omega))]
    refine ⟨z, rfl, fr_rf _ _ _ _ z, WK_c hz (fun i hi k hk => ?_)⟩
    show (if i = r ∧ c ≤ k then clE p fa (W r k) (W c k) else W i k) = (if i = r ∧ c ≤ k ∧ k < j then clE p fa (W r k) (W c k) else W i k)
    by_cases q : i = r ∧ c ≤ k
    · rw [if_pos q, if_pos ⟨q.1, q.2, hk⟩]
    · rw [if_neg q, if_neg (fun e => q ⟨e.1, e.2.1⟩)]
  | g + 1, f + 1, j, z, hg, hf, hcj, hz => by
    have hj : j < n := by omega
    have c1 := ck_in (show r * 10 + j < 100 by omega) (by decide)
    have c2 := ck_in (show c * 10 + j < 100 by omega) (by decide)
    have hp0 : ¬ jl p = 0 := fun e => by
      have := (jl_z (by omega) (by omega)).mp e
      omega
    obtain ⟨a1, a2, a3⟩ := WK_at hz hr hj (show (if r = r ∧ c ≤ j ∧ j < j then clE p fa (W r j) (W c j) else W r j) = W r j from if_neg (by omega))
    obtain ⟨b1, b2, b3⟩ := WK_at hz hc hj (show (if c = r ∧ c ≤ j ∧ j < j then clE p fa (W r j) (W c j) else W c j) = W c j from if_neg (by omega))
    rw [l_M_clear_56, if_neg (nI_ge hj (by omega))]
    simp only [sl10, let_s, if_neg c1, if_neg c2, if_neg hp0]
    simp only [nI_clamp (show r * 10 + j < 2 ^ 31 by omega), nI_clamp (show c * 10 + j < 2 ^ 31 by omega), a1, b1, nI_1]
    obtain ⟨m1, m2⟩ := m62 (a := p - fa) (b := W c j) (by omega) (by omega) (by omega) (by omega)
    rw [jl_sub, jl_mul, jl_add, jl_rm (by omega) (by omega) hp (by omega)]
    have hf2 : fr [] [] [] [15] (s_J z 15 (vp_updL (z.2.2.2 15) (r * 10 + j) (jl ((W r j + (p - fa) * W c j) % p)))) z := fr_J _ _ (by decide)
    have e1 := Int.emod_nonneg (W r j + (p - fa) * W c j) (show p ≠ 0 by omega)
    have e2 := Int.emod_lt_of_pos (W r j + (p - fa) * W c j) hp
    obtain ⟨z', d1, d2, d3⟩ := lp_cl1 (X5 := X5) (W := W) hn hc hr hrc hp hp2 hf0 hf1 g f (j + 1) (s_J z 15 (vp_updL (z.2.2.2 15) (r * 10 + j) (jl ((W r j + (p - fa) * W c j) % p)))) (by omega) (by omega) (by omega) (WK_mk (fun i hi k hk => by
      rw [sJ_self]
      by_cases q : i * 10 + k = r * 10 + j
      · have i1 : i = r := by omega
        have k1 : k = j := by omega
        subst i1
        subst k1
        exact ⟨clE p fa (W i k) (W c k), (show (if i = i ∧ c ≤ k ∧ k < k + 1 then clE p fa (W i k) (W c k) else W i k) = clE p fa (W i k) (W c k) from if_pos (by omega)), by rw [pk_uLs]; rfl, e1, e2⟩
      · rw [pk_uLn q]
        by_cases q2 : i = r ∧ c ≤ k ∧ k < j
        · exact ⟨_, (show (if i = r ∧ c ≤ k ∧ k < j + 1 then clE p fa (W r k) (W c k) else W i k) = clE p fa (W r k) (W c k) from if_pos (by omega)), WK_at hz hi hk (show (if i = r ∧ c ≤ k ∧ k < j then clE p fa (W r k) (W c k) else W i k) = clE p fa (W r k) (W c k) from if_pos q2)⟩
        · exact ⟨_, (show (if i = r ∧ c ≤ k ∧ k < j + 1 then clE p fa (W r k) (W c k) else W i k) = W i k from if_neg (by omega)), WK_at hz hi hk (show (if i = r ∧ c ≤ k ∧ k < j then clE p fa (W r k) (W c k) else W i k) = W i k from if_neg q2)⟩))
    exact ⟨z', d1, fr_tr d2 hf2, d3⟩
def tr (c : Nat) (W : Nat → Nat → Int) : Nat → Nat → Int := fun a b => W (a + c) (b + c)
theorem lp_cl2 {n c : Nat} {p iv : Int} (hn : n ≤ 10) (hc : c < n) (hp : 0 < p) (hp2 : p < 2147483648) (hi0 : 0 ≤ iv) (hi1 : iv < p) : ∀ (g f r : Nat) (z : gS) (W : Nat → Nat → Int), r + g = n → g < f → c < r → WK z n p W → p ∣ W c c * iv - 1 → (∀ i, c < i → i < r → W i c = 0) → ∃ z' W', l_M_clear_28 f z (nI c) (nI n) (jl p) (jl iv) (nI r) = some z' ∧ fr [] [] [] [15] z' z ∧ WK z' n p W' ∧ (∀ k, W' c k = W c k) ∧ (∀ i, c < i → i < n → W' i c = 0) ∧ p ∣ dt (n - c) (tr c W') - dt (n - c) (tr c W)
  | 0, f + 1, r, z, W, hg, hf, hcr, hz, hv, h0 => by
    have : r = n := by omega
    subst this
    rw [l_M_clear_28, if_pos (nI_le (Nat.le_refl _) (by omega))]
    exact ⟨z, W, rfl, fr_rf _ _ _ _ z, hz, fun _ => rfl, h0, ⟨0, by omega⟩⟩
  | g + 1, f + 1, r, z, W, hg, hf, hcr, hz, hv, h0 => by
    have hr : r < n := by omega
    have c1 := ck_in (show r * 10 + c < 100 by omega) (by decide)
    have hp0 : ¬ jl p = 0 := fun e => by
      have := (jl_z (by omega) (by omega)).mp e
      omega
    obtain ⟨a1, a2, a3⟩ := hz r hr c hc
    obtain ⟨m1, m2⟩ := m62 (a := W r c) (b := iv) (by omega) (by omega) (by omega) (by omega)
    rw [l_M_clear_28, if_neg (nI_ge hr (by omega))]
    simp only [sl10, let_s, if_neg c1, if_neg hp0]
    rw [nI_clamp (show r * 10 + c < 2 ^ 31 by omega), a1, jl_mul, jl_rm m1 (by omega) hp (by omega)]
    have f0 := Int.emod_nonneg (W r c * iv) (show p ≠ 0 by omega)
    have f1 := Int.emod_lt_of_pos (W r c * iv) hp
    have fe := Int.mul_ediv_add_emod (W r c * iv) p
    generalize W r c * iv / p = q at fe
    generalize W r c * iv % p = fa at f0 f1 fe ⊢
    obtain ⟨z1, b1, b2, b3⟩ := lp_cl1 (X5 := jl iv) (W := W) hn hc hr (by omega) hp hp2 f0 f1 (n - c) 200 c z (by omega) (by omega) (Nat.le_refl _) (WK_c hz (fun i hi k hk => by rw [if_neg (by omega)]))
    rw [b1, bd6_s, nI_1]
    obtain ⟨u, hu⟩ := hv
    have hrc0 : clE p fa (W r c) (W c c) = 0 := by
      unfold clE
      refine Int.emod_eq_zero_of_dvd ⟨W c c - W r c * u + q * W c c, ?_⟩
      grind
    have hW1c : ∀ k, (if c = r ∧ c ≤ k then clE p fa (W r k) (W c k) else W c k) = W c k := fun k => if_neg (by omega)
    obtain ⟨z', W', d1, d2, d3, d4, d5, d6⟩ := lp_cl2 hn hc hp hp2 hi0 hi1 g f (r + 1) z1 (fun i k => if i = r ∧ c ≤ k then clE p fa (W r k) (W c k) else W i k) (by omega) (by omega) (by omega) b3 (by
      show p ∣ (if c = r ∧ c ≤ c then clE p fa (W r c) (W c c) else W c c) * iv - 1
      rw [hW1c]
      exact ⟨u, hu⟩) (fun i i1 i2 => by
      show (if i = r ∧ c ≤ c then clE p fa (W r c) (W c c) else W i c) = 0
      by_cases e : i = r
      · rw [if_pos ⟨e, Nat.le_refl _⟩]; exact hrc0
      · rw [if_neg (fun q => e q.1)]; exact h0 i i1 (by omega))
    refine ⟨z', W', d1, fr_tr d2 b2, d3, fun k => (d4 k).trans (hW1c k), d5, ?_⟩
    -- the determinant
    have s1 : p ∣ dt (n - c) (tr c (fun i k => if i = r ∧ c ≤ k then clE p fa (W r k) (W c k) else W i k)) - dt (n - c) (tr c (fun i k => if i = r ∧ c ≤ k then W r k + (p - fa) * W c k else W i k)) := dt_mod (n - c) (fun a ha b hb => by
      show p ∣ (if a + c = r ∧ c ≤ b + c then clE p fa (W r (b + c)) (W c (b + c)) else W (a + c) (b + c)) - (if a + c = r ∧ c ≤ b + c then W r (b + c) + (p - fa) * W c (b + c) else W (a + c) (b + c))
      by_cases e : a + c = r ∧ c ≤ b + c
      · rw [if_pos e, if_pos e]
        unfold clE
        have := Int.mul_ediv_add_emod (W r (b + c) + (p - fa) * W c (b + c)) p
        exact ⟨- ((W r (b + c) + (p - fa) * W c (b + c)) / p), by rw [Int.mul_neg]; omega⟩
      · rw [if_neg e, if_neg e]
        exact ⟨0, by omega⟩)
    have s2 : dt (n - c) (tr c (fun i k => if i = r ∧ c ≤ k then W r k + (p - fa) * W c k else W i k)) = dt (n - c) (tr c W) := dt_addrow (r := r - c) (s := 0) (p - fa) (by omega) (by omega) (by omega) (fun b hb => by
      show (if r - c + c = r ∧ c ≤ b + c then W r (b + c) + (p - fa) * W c (b + c) else W (r - c + c) (b + c)) = W (r - c + c) (b + c) + (p - fa) * W (0 + c) (b + c)
      rw [if_pos ⟨by omega, by omega⟩, show r - c + c = r by omega, Nat.zero_add]) (fun a ha har b hb => by
      show (if a + c = r ∧ c ≤ b + c then _ else W (a + c) (b + c)) = W (a + c) (b + c)
      rw [if_neg (by omega)])
    rw [s2] at s1
    obtain ⟨v1, hv1⟩ := s1
    obtain ⟨v2, hv2⟩ := d6
    exact ⟨v1 + v2, by rw [Int.mul_add]; omega⟩
theorem f_cl {z : gS} {n c p : Nat} {P : Int64} (hP : gdP P p) (hn : n ≤ 10) (hc : c < n) {W : Nat → Nat → Int} (hz : WK z n p W) (h0 : W c c ≠ 0) : ∃ z' W', f_M_clear z (nI c) (nI n) P = some z' ∧ fr [] [] [] [15] z' z ∧ WK z' n p W' ∧ (∀ k, W' c k = W c k) ∧ (∀ i, c < i → i < n → W' i c = 0) ∧ (p : Int) ∣ dt (n - c) (tr c W') - dt (n - c) (tr c W) := by
  have hp2 := hP.2.2.1
  have hp3 := hP.2.2.2.1
  have c1 := ck_in (show c * 10 + c < 100 by omega) (by decide)
  obtain ⟨a1, a2, a3⟩ := hz c hc c hc
  unfold f_M_clear
  simp only [sl10, let_s]
  rw [if_neg c1, nI_clamp (show c * 10 + c < 2 ^ 31 by omega), a1, nI_1]
  obtain ⟨v, v1, v2, v3, v4⟩ := f_inv (z := z) hP (show 0 < W c c by omega) a3
  rw [← hP.1] at v1
  rw [v1, bd2_s]
  obtain ⟨z', W', b1, b2, b3, b4, b5, b6⟩ := lp_cl2 hn hc (show (0 : Int) < p by omega) (by omega) v2 v3 (n - (c + 1)) 200 (c + 1) z W (by omega) (by omega) (by omega) hz v4 (fun i h1 h2 => by omega)
  rw [← hP.1] at b1
  rw [b1, bd1_s]
  exact ⟨z', W', rfl, b2, b3, b4, b5, b6⟩
/-! the row with the pivot -/
theorem lp_pv {z : gS} {n c : Nat} {p d : Int} {W : Nat → Nat → Int} (hn : n ≤ 10) (hc : c < n) (hp2 : p < 2147483648) (hz : WK z n p W) {X3 X5 : Int64} : ∀ (g f r : Nat), r + g = n → g < f → c ≤ r → (∀ i, c ≤ i → i < r → W i c = 0) → ∃ r', c ≤ r' ∧ r' ≤ n ∧ l_M_modulo_108 f z (nI n) X3 X5 (nI c) (nI r) = some (nI n, X3, X5, nI c, nI r', z) ∧ (∀ i, c ≤ i → i < r' → W i c = 0) ∧ (r' < n → W r' c ≠ 0)
  | 0, f + 1, r, hg, hf, hcr, h0 => by
    have : r = n := by omega
    subst this
    rw [l_M_modulo_108, if_pos (nI_le (Nat.le_refl _) (by omega))]
    exact ⟨r, hcr, Nat.le_refl _, rfl, h0, fun q => absurd q (Nat.lt_irrefl _)⟩
  | g + 1, f + 1, r, hg, hf, hcr, h0 => by
    have hr : r < n := by omega
    have c1 := ck_in (show r * 10 + c < 100 by omega) (by decide)
    obtain ⟨a1, a2, a3⟩ := hz r hr c hc
    rw [l_M_modulo_108, if_neg (nI_ge hr (by omega)), sl10, if_neg c1, nI_clamp (show r * 10 + c < 2 ^ 31 by omega), a1, nI_1]
    by_cases q : W r c = 0
    · rw [if_pos ((lg_cmp_eq _ _).mpr (by rw [q]; rfl))]
      exact lp_pv hn hc hp2 hz (d := d) g f (r + 1) (by omega) (by omega) (by omega) (fun i i1 i2 => by
        by_cases e : i = r
        · rw [e]; exact q
        · exact h0 i i1 (by omega))
    · rw [if_neg (fun e => q ((jl_z (by omega) (by omega)).mp ((lg_cmp_eq _ _).mp e)))]
      exact ⟨r, hcr, by omega, rfl, h0, fun _ => q⟩
theorem tr_sw {c r : Nat} (W : Nat → Nat → Int) {n : Nat} (hc : c < n) (hr : r < n) (hcr : c < r) : dt (n - c) (tr c (fun i j => W (swp r c i) j)) = - dt (n - c) (tr c W) := dt_swap (r := 0) (s := r - c) (by omega) (by omega) (by omega) (fun j hj => by
    show W (swp r c (0 + c)) (j + c) = W (r - c + c) (j + c)
    rw [show r - c + c = r by omega]
    unfold swp
    rw [if_neg (by omega), if_pos (by omega)]) (fun j hj => by
    show W (swp r c (r - c + c)) (j + c) = W (0 + c) (j + c)
    rw [show r - c + c = r by omega, Nat.zero_add]
    unfold swp
    rw [if_pos rfl]) (fun i hi h1 h2 j hj => by
    show W (swp r c (i + c)) (j + c) = W (i + c) (j + c)
    unfold swp
    rw [if_neg (by omega), if_neg (by omega)])
theorem swp_id (c i : Nat) : swp c c i = i := by
  unfold swp
  by_cases q : i = c
  · rw [if_pos q, q]
  · rw [if_neg q, if_neg q]
theorem lp_elm {n p : Nat} {P : Int64} (hP : gdP P p) (hn : n ≤ 10) : ∀ (g f c : Nat) (z : gS) (d : Int) (W : Nat → Nat → Int), c + g = n → g < f → WK z n p W → 0 ≤ d → d < p → ∃ e d' z', l_M_modulo_98 f z (nI n) P (jl d) (nI c) = some (e, P, jl d', z') ∧ fr [] [] [] [15] z' z ∧ ((e = 0 ∧ (p : Int) ∣ d * dt (n - c) (tr c W)) ∨ (e = 1 ∧ 0 ≤ d' ∧ d' < p ∧ (p : Int) ∣ d' - d * dt (n - c) (tr c W)))
  | 0, f + 1, c, z, d, W, hg, hf, hz, h1, h2 => by
    have : c = n := by omega
    subst this
    rw [l_M_modulo_98, if_pos (nI_le (Nat.le_refl _) (by omega)), Nat.sub_self]
    exact ⟨1, d, z, rfl, fr_rf _ _ _ _ z, Or.inr ⟨rfl, h1, h2, ⟨0, by show d - d * 1 = _; omega⟩⟩⟩
  | g + 1, f + 1, c, z, d, W, hg, hf, hz, h1, h2 => by
    have hp2 := hP.2.2.1
    have hp3 := hP.2.2.2.1
    have hc : c < n := by omega
    have hp0 : ¬ P = 0 := fun e => by
      rw [hP.1] at e
      have := (jl_z (by omega) (by omega)).mp e
      omega
    rw [l_M_modulo_98, if_neg (nI_ge hc (by omega))]
    obtain ⟨r, r1, r2, r3, r4, r5⟩ := lp_pv (d := d) hn hc (by omega) hz (X3 := P) (X5 := jl d) (n - c) 200 c (by omega) (by omega) (Nat.le_refl _) (fun i i1 i2 => by omega)
    rw [r3, bd6_s]
    have ec : n - c = (n - (c + 1)) + 1 := by omega
    by_cases q : r = n
    · rw [if_pos (by rw [q])]
      refine ⟨0, d, z, rfl, fr_rf _ _ _ _ z, Or.inl ⟨rfl, ?_⟩⟩
      rw [ec, dt_colz (fun i hi => by
        show W (i + c) (0 + c) = 0
        rw [Nat.zero_add]
        exact r4 _ (by omega) (by omega)), Int.mul_zero]
      exact ⟨0, by omega⟩
    rw [if_neg (fun e => q ((nI_eq (by omega) (by omega)).mp e))]
    have hr : r < n := by omega
    obtain ⟨z1, x1, x2, x3⟩ := f_ex hn hr hc hz
    have e9 : swp r c c = r := by
      unfold swp
      by_cases q9 : c = r
      · rw [if_pos q9, q9]
      · rw [if_neg q9, if_pos rfl]
    generalize hV : (fun i j => W (swp r c i) j) = V at x3
    have hWc : V c c ≠ 0 := by
      rw [← hV]
      show W (swp r c c) c ≠ 0
      rw [e9]
      exact r5 hr
    have c1 := ck_in (show c * 10 + c < 100 by omega) (by decide)
    -- what follows the choice of the sign
    have goon : ∀ d1 : Int, 0 ≤ d1 → d1 ≤ p → (p : Int) ∣ d1 * dt (n - c) (tr c V) - d * dt (n - c) (tr c W) → ∃ e d' z', (bd1 (f_M_exchange z (nI r) (nI c)) (fun w41 =>
     if ((nI c * (10 : Int32)) + nI c) < 0 ∨ 100 ≤ ((nI c * (10 : Int32)) + nI c).toNatClampNeg then none else
     if P = 0 then none else
     (some (((jl d1 * (w41.2.2.2 15 ((nI c * (10 : Int32)) + nI c).toNatClampNeg)) - (jl d1 * (w41.2.2.2 15 ((nI c * (10 : Int32)) + nI c).toNatClampNeg)) / P * P) : Int64)).bind (fun v44 =>
     bd1 (f_M_clear w41 (nI c) (nI n) P) (fun w47 =>
     l_M_modulo_98 f w47 (nI n) P v44 (nI c + (1 : Int32)))))) = some (e, P, jl d', z') ∧ fr [] [] [] [15] z' z ∧ ((e = 0 ∧ (p : Int) ∣ d * dt (n - c) (tr c W)) ∨ (e = 1 ∧ 0 ≤ d' ∧ d' < p ∧ (p : Int) ∣ d' - d * dt (n - c) (tr c W))) := by
      intro d1 k1 k2 k3
      obtain ⟨a1, a2, a3⟩ := x3 c hc c hc
      rw [x1, bd1_s, sl10, if_neg c1, if_neg hp0, let_s, nI_clamp (show c * 10 + c < 2 ^ 31 by omega), a1]
      obtain ⟨m1, m2⟩ := m62 (a := d1) (b := V c c) k1 (by omega) a2 (by omega)
      obtain ⟨z2, W2, y1, y2, y3, y4, y5, y6⟩ := f_cl hP hn hc x3 hWc
      rw [y1, bd1_s, nI_1, hP.1]
      rw [jl_mul, jl_rm m1 (by omega) (by omega) (by omega), ← hP.1]
      have g0 := Int.emod_nonneg (d1 * V c c) (show (p : Int) ≠ 0 by omega)
      have g1 := Int.emod_lt_of_pos (d1 * V c c) (show (0 : Int) < p by omega)
      have ge := Int.mul_ediv_add_emod (d1 * V c c) p
      generalize d1 * V c c / (p : Int) = qq at ge
      generalize d1 * V c c % (p : Int) = d2 at g0 g1 ge ⊢
      obtain ⟨e, d', z', t1, t2, t3⟩ := lp_elm hP hn g f (c + 1) z2 d2 W2 (by omega) (by omega) y3 g0 g1
      have ed : dt (n - c) (tr c W2) = V c c * dt (n - (c + 1)) (tr (c + 1) W2) := by
        rw [ec, dt_col0 (fun i i1 i2 => by
          show W2 (i + c) (0 + c) = 0
          rw [Nat.zero_add]
          exact y5 _ (by omega) (by omega))]
        have e1 : tr c W2 0 0 = V c c := by
          show W2 (0 + c) (0 + c) = _
          rw [Nat.zero_add, y4]
        rw [e1]
        congr 1
        refine dt_congr _ (fun i hi j hj => ?_)
        show W2 (i + 1 + c) (j + 1 + c) = W2 (i + (c + 1)) (j + (c + 1))
        rw [show i + 1 + c = i + (c + 1) by omega, show j + 1 + c = j + (c + 1) by omega]
      refine ⟨e, d', z', t1, fr_tr t2 (fr_tr y2 x2), ?_⟩
      rw [ed] at y6
      obtain ⟨u1, hu1⟩ := y6
      obtain ⟨u2, hu2⟩ := k3
      generalize dt (n - c) (tr c W) = DW at hu2 ⊢
      generalize dt (n - c) (tr c V) = DV at hu1 hu2
      generalize dt (n - (c + 1)) (tr (c + 1) W2) = D2 at t3 hu1
      generalize V c c = vc at *
      rcases t3 with ⟨te, u3, hu3⟩ | ⟨te, td0, td1, u3, hu3⟩
      · refine Or.inl ⟨te, ⟨u3 + qq * D2 - d1 * u1 - u2, ?_⟩⟩
        grind
      · refine Or.inr ⟨te, td0, td1, ⟨u3 - qq * D2 + d1 * u1 + u2, ?_⟩⟩
        grind
    by_cases q2 : r = c
    · rw [if_pos (by rw [q2])]
      refine goon d h1 (by omega) ⟨0, ?_⟩
      have e8 : V = W := by
        rw [← hV]
        funext i j
        rw [q2, swp_id]
      rw [e8]
      omega
    · rw [if_neg (fun e => q2 ((nI_eq (by omega) (by omega)).mp e)), let_s]
      have e8 : P - jl d = jl ((p : Int) - d) := by rw [hP.1, jl_sub]
      rw [e8]
      refine goon ((p : Int) - d) (by omega) (by omega) ?_
      rw [← hV, tr_sw W hc hr (by omega)]
      exact ⟨- dt (n - c) (tr c W), by grind⟩
