/-! Powers modulo a prime, as the reference makes them -/
theorem m62 {a b : Int} (h1 : 0 ≤ a) (h2 : a ≤ 2147483648) (h3 : 0 ≤ b) (h4 : b ≤ 2147483648) : 0 ≤ a * b ∧ a * b ≤ 4611686018427387904 := ⟨Int.mul_nonneg h1 h3, by
  have := Int.mul_le_mul h2 h4 h3 (by decide)
  omega⟩
def pmI : Nat → Int32
  | 0 => -1
  | g + 1 => nI g
theorem pm_1 (g : Nat) : nI g + (-1 : Int32) = pmI g := by
  match g with
  | 0 => rfl
  | k + 1 => exact pk_m1 k
theorem half_pw (e g : Nat) : e / 2 ^ g = 2 * (e / 2 ^ (g + 1)) + e / 2 ^ g % 2 := by
  rw [Nat.pow_succ, ← Nat.div_div_eq_div_mul]
  exact (Nat.div_add_mod (e / 2 ^ g) 2).symm
theorem lp_pow {z : gS} {x e p : Nat} {E : Int64} (hp1 : 0 < p) (hp2 : p < 2147483648) (hx : x < p) (hE : ∀ b, b < 63 → (lg_cmp ((E >>> ((nI b).toInt64 &&& 63)) &&& (1 : Int64)) (0 : Int64) = 0 ↔ e / 2 ^ b % 2 = 0)) : ∀ (g f v : Nat), g ≤ 63 → g < f → v = x ^ (e / 2 ^ g) % p → l_M_powered_7 f z (jl x) E (jl p) (jl v) (pmI g) = some (jl ((x ^ e % p : Nat) : Int), z)
  | 0, f + 1, v, hg, hf, hv => by
    rw [Nat.pow_zero, Nat.div_one] at hv
    rw [l_M_powered_7, if_pos (show pmI 0 < 0 by decide), hv]
  | g + 1, f + 1, v, hg, hf, hv => by
    have hvp : v < p := by rw [hv]; exact Nat.mod_lt _ hp1
    have hp0 : ¬ jl (p : Int) = 0 := fun e => by
      have := (jl_z (by omega) (by omega)).mp e
      omega
    have sq : jl (v : Int) * jl v - jl (v : Int) * jl v / jl p * jl p = jl ((v * v % p : Nat) : Int) := by
      obtain ⟨a1, a2⟩ := m62 (a := (v : Int)) (b := (v : Int)) (by omega) (by omega) (by omega) (by omega)
      rw [jl_mul, jl_rm a1 (by omega) (by omega) (by omega), Int.natCast_emod (v * v) p, Int.natCast_mul v v]
    have e2 := half_pw e g
    have vv : v * v % p = x ^ (2 * (e / 2 ^ (g + 1))) % p := by
      rw [hv, ← Nat.mul_mod, ← Nat.pow_add, Nat.two_mul]
    have lt1 : v * v % p < p := Nat.mod_lt _ hp1
    rw [l_M_powered_7, if_neg (show ¬ pmI (g + 1) < 0 from nI_pos (by omega))]
    simp only [if_neg hp0, let_s, sq]
    rw [show pmI (g + 1) = nI g from rfl, pm_1]
    by_cases q : e / 2 ^ g % 2 = 0
    · rw [if_pos ((hE g (by omega)).mpr q)]
      rw [q, Nat.add_zero] at e2
      exact lp_pow hp1 hp2 hx hE g f _ (by omega) (by omega) (by rw [vv, e2])
    · rw [if_neg (fun c => q ((hE g (by omega)).mp c))]
      have hb : e / 2 ^ g % 2 = 1 := by
        rcases Nat.mod_two_eq_zero_or_one (e / 2 ^ g) with h | h
        · exact absurd h q
        · exact h
      rw [hb] at e2
      have ml : jl ((v * v % p : Nat) : Int) * jl x - jl ((v * v % p : Nat) : Int) * jl x / jl p * jl p = jl ((v * v % p * x % p : Nat) : Int) := by
        obtain ⟨a1, a2⟩ := m62 (a := ((v * v % p : Nat) : Int)) (b := (x : Int)) (by omega) (by omega) (by omega) (by omega)
        rw [jl_mul, jl_rm a1 (by omega) (by omega) (by omega), Int.natCast_emod (v * v % p * x) p, Int.natCast_mul (v * v % p) x]
      rw [ml]
      refine lp_pow hp1 hp2 hx hE g f _ (by omega) (by omega) ?_
      rw [vv, e2, Nat.mod_mul_mod, ← Nat.pow_succ]
theorem f_pow {z : gS} {x e p : Nat} {E : Int64} (hp1 : 1 < p) (hp2 : p < 2147483648) (hx : x < p) (he : e < 2 ^ 63) (hE : ∀ b, b < 63 → (lg_cmp ((E >>> ((nI b).toInt64 &&& 63)) &&& (1 : Int64)) (0 : Int64) = 0 ↔ e / 2 ^ b % 2 = 0)) : f_M_powered z (jl x) E (jl p) = some (jl ((x ^ e % p : Nat) : Int), z) := by
  unfold f_M_powered
  have h := lp_pow (z := z) (by omega) hp2 hx hE 63 200 1 (by decide) (by decide) (by rw [Nat.div_eq_of_lt he, Nat.pow_zero, Nat.mod_eq_of_lt hp1])
  have h' : l_M_powered_7 200 z (jl x) E (jl p) 1 62 = some (jl ((x ^ e % p : Nat) : Int), z) := h
  rw [h', bd2_s]
theorem E_p : ∀ b, b < 63 → (lg_cmp ((((2147483647 : Int64) - (2 : Int64)) >>> ((nI b).toInt64 &&& 63)) &&& (1 : Int64)) (0 : Int64) = 0 ↔ 2147483645 / 2 ^ b % 2 = 0) := by decide +kernel
theorem E_q : ∀ b, b < 63 → (lg_cmp ((((2147483629 : Int64) - (2 : Int64)) >>> ((nI b).toInt64 &&& 63)) &&& (1 : Int64)) (0 : Int64) = 0 ↔ 2147483627 / 2 ^ b % 2 = 0) := by decide +kernel
/-- what is asked of a modulus -/
def gdP (P : Int64) (p : Nat) : Prop := P = jl p ∧ fm_ok p ∧ p < 2147483648 ∧ 2 < p ∧ ∀ b, b < 63 → (lg_cmp (((P - (2 : Int64)) >>> ((nI b).toInt64 &&& 63)) &&& (1 : Int64)) (0 : Int64) = 0 ↔ (p - 2) / 2 ^ b % 2 = 0)
theorem gd_p : gdP 2147483647 2147483647 := ⟨rfl, fm_p, by decide, by decide, E_p⟩
theorem gd_q : gdP 2147483629 2147483629 := ⟨rfl, fm_q, by decide, by decide, E_q⟩
/-- the inverse -/
theorem f_inv {z : gS} {P : Int64} {p : Nat} (h : gdP P p) {x : Int} (h0 : 0 < x) (h1 : x < p) : ∃ v : Int, f_M_powered z (jl x) (P - 2) (jl p) = some (jl v, z) ∧ 0 ≤ v ∧ v < p ∧ (p : Int) ∣ x * v - 1 := by
  obtain ⟨_, g2, g3, g4, g5⟩ := h
  obtain ⟨n, rfl⟩ : ∃ n : Nat, x = n := ⟨x.toNat, by omega⟩
  have h2 := f_pow (z := z) (x := n) (e := p - 2) (E := P - 2) (by omega) g3 (by omega) (by omega) g5
  refine ⟨_, h2, by omega, by have := Nat.mod_lt (n ^ (p - 2)) (show 0 < p by omega); omega, ?_⟩
  have h3 := fm_inv g2 (show 0 < n by omega) (show n < p by omega)
  have h4 : n * (n ^ (p - 2) % p) % p = 1 := by rw [Nat.mul_mod_mod]; exact h3
  have h5 := Nat.div_add_mod (n * (n ^ (p - 2) % p)) p
  rw [h4] at h5
  refine ⟨((n * (n ^ (p - 2) % p) / p : Nat) : Int), ?_⟩
  have h6 : ((p * (n * (n ^ (p - 2) % p) / p) + 1 : Nat) : Int) = ((n * (n ^ (p - 2) % p) : Nat) : Int) := by rw [h5]
  rw [Int.natCast_add, Int.natCast_mul, Int.natCast_mul] at h6
  have h7 : ((1 : Nat) : Int) = 1 := rfl
  omega
