/-! Pure rows: two primes, and Fermat -/
def fm_pr : Nat → Nat → Nat
  | 0, lo => lo
  | k + 1, lo => fm_pr k lo * fm_pr k (lo + 2 ^ k)
theorem fm_dvd : ∀ (k lo d : Nat), lo ≤ d → d < lo + 2 ^ k → d ∣ fm_pr k lo
  | 0, lo, d, h1, h2 => by
    have : d = lo := by
      rw [Nat.pow_zero] at h2
      omega
    subst this
    exact Nat.dvd_refl _
  | k + 1, lo, d, h1, h2 => by
    rw [Nat.pow_succ] at h2
    show d ∣ fm_pr k lo * fm_pr k (lo + 2 ^ k)
    by_cases h : d < lo + 2 ^ k
    · exact Nat.dvd_mul_right_of_dvd (fm_dvd k lo d h1 h) _
    · exact Nat.dvd_mul_left_of_dvd (fm_dvd k (lo + 2 ^ k) d (by omega) (by omega)) _
def fm_ok (p : Nat) : Prop := 1 < p ∧ ∀ a, 0 < a → a < p → Nat.Coprime a p
theorem fm_prime {p : Nat} (h1 : 1 < p) (h2 : p < 65538 * 65538) (h : Nat.gcd p (fm_pr 16 2) = 1) : fm_ok p := by
  have nod : ∀ d, 2 ≤ d → d < 2 + 2 ^ 16 → ¬ d ∣ p := fun d a b hd => by
    have q : d ∣ Nat.gcd p (fm_pr 16 2) := Nat.dvd_gcd hd (fm_dvd 16 2 d a b)
    rw [h] at q
    have := Nat.le_of_dvd (by omega) q
    omega
  refine ⟨h1, fun a h0 ha => ?_⟩
  show Nat.gcd a p = 1
  have g1 : Nat.gcd a p ∣ p := Nat.gcd_dvd_right a p
  have g2 : Nat.gcd a p ≤ a := Nat.gcd_le_left p h0
  have g3 : 0 < Nat.gcd a p := Nat.gcd_pos_of_pos_left p h0
  generalize Nat.gcd a p = g at g1 g2 g3 ⊢
  by_cases hg : g = 1
  · exact hg
  · obtain ⟨k, hk⟩ := g1
    exfalso
    by_cases hs : g < 2 + 2 ^ 16
    · exact nod g (by omega) hs ⟨k, hk⟩
    · have hk2 : 2 ≤ k := by
        rcases k with _ | _ | k
        · omega
        · omega
        · omega
      have hk3 : k < 2 + 2 ^ 16 := by
        rcases Nat.lt_or_ge k (2 + 2 ^ 16) with q | q
        · exact q
        · have h9 : (2 + 2 ^ 16) * (2 + 2 ^ 16) ≤ g * k := Nat.mul_le_mul (by omega) q
          omega
      exact nod k hk2 hk3 ⟨g, by rw [hk]; exact Nat.mul_comm g k⟩
theorem fm_p : fm_ok 2147483647 := fm_prime (by decide) (by decide) (by decide +kernel)
theorem fm_q : fm_ok 2147483629 := fm_prime (by decide) (by decide) (by decide +kernel)
def fc : Nat → Nat → Nat
  | _, 0 => 1
  | 0, _ + 1 => 0
  | n + 1, k + 1 => fc n k + fc n (k + 1)
theorem fc_0 (n : Nat) : fc n 0 = 1 := by
  cases n <;> rfl
theorem fc_s (n k : Nat) : fc (n + 1) (k + 1) = fc n k + fc n (k + 1) := rfl
theorem fc_big : ∀ (n k : Nat), n < k → fc n k = 0
  | 0, k + 1, _ => rfl
  | n + 1, k + 1, h => by
    rw [fc_s, fc_big n k (by omega), fc_big n (k + 1) (by omega)]
theorem fc_nn : ∀ n : Nat, fc n n = 1
  | 0 => rfl
  | n + 1 => by rw [fc_s, fc_nn n, fc_big n (n + 1) (by omega)]
theorem fc_id : ∀ (n k : Nat), (k + 1) * fc (n + 1) (k + 1) = (n + 1) * fc n k
  | 0, 0 => rfl
  | 0, k + 1 => by
    rw [fc_big 1 (k + 1 + 1) (by omega), fc_big 0 (k + 1) (by omega)]
    rfl
  | n + 1, 0 => by
    have h := fc_id n 0
    rw [fc_0, Nat.zero_add, Nat.one_mul, Nat.mul_one] at h
    rw [fc_s, fc_0, h]
    omega
  | n + 1, k + 1 => by
    have h1 := fc_id n k
    have h2 := fc_id n (k + 1)
    have e1 := fc_s n k
    rw [fc_s (n + 1) (k + 1)]
    generalize fc (n + 1) (k + 1) = A at h1 e1 ⊢
    generalize fc (n + 1) (k + 1 + 1) = B at h2 ⊢
    generalize fc n k = C at h1 e1
    generalize fc n (k + 1) = E at h2 e1
    have e2 : (k + 1 + 1) * (A + B) = (k + 1) * A + A + (k + 1 + 1) * B := by grind
    rw [e2, h1, h2, e1]
    grind
def ns (n : Nat) (f : Nat → Nat) : Nat := match n with
  | 0 => 0
  | n + 1 => ns n f + f n
theorem ns_s (n : Nat) (f : Nat → Nat) : ns (n + 1) f = ns n f + f n := rfl
theorem ns_sh : ∀ (n : Nat) (f : Nat → Nat), ns (n + 1) f = f 0 + ns n (fun k => f (k + 1))
  | 0, f => by rw [ns_s]; show 0 + f 0 = f 0 + 0; omega
  | n + 1, f => by rw [ns_s (n + 1) f, ns_sh n f, ns_s n]; omega
theorem ns_add : ∀ (n : Nat) (f g : Nat → Nat), ns n (fun k => f k + g k) = ns n f + ns n g
  | 0, _, _ => rfl
  | n + 1, f, g => by rw [ns_s, ns_s, ns_s, ns_add n f g]; omega
theorem ns_mul : ∀ (n c : Nat) (f : Nat → Nat), ns n (fun k => c * f k) = c * ns n f
  | 0, c, _ => (Nat.mul_zero c).symm
  | n + 1, c, f => by rw [ns_s, ns_s, ns_mul n c f, Nat.mul_add]
theorem ns_congr : ∀ (n : Nat) {f g : Nat → Nat}, (∀ k, k < n → f k = g k) → ns n f = ns n g
  | 0, _, _, _ => rfl
  | n + 1, f, g, h => by rw [ns_s, ns_s, ns_congr n (fun k hk => h k (by omega)), h n (by omega)]
theorem fm_bin (x : Nat) : ∀ n : Nat, (x + 1) ^ n = ns (n + 1) (fun k => fc n k * x ^ k)
  | 0 => by rw [Nat.pow_zero, ns_s]; show 1 = 0 + fc 0 0 * x ^ 0; rw [fc_0, Nat.pow_zero]
  | n + 1 => by
    rw [Nat.pow_succ, fm_bin x n, ns_sh (n + 1)]
    have e1 : ns (n + 1) (fun k => fc (n + 1) (k + 1) * x ^ (k + 1)) = x * ns (n + 1) (fun k => fc n k * x ^ k) + ns (n + 1) (fun k => fc n (k + 1) * x ^ (k + 1)) := by
      rw [← ns_mul, ← ns_add]
      refine ns_congr _ (fun k _ => ?_)
      rw [fc_s, Nat.pow_succ]
      grind
    have e2 := ns_sh (n + 1) (fun k => fc n k * x ^ k)
    rw [ns_s (n + 1), fc_big n (n + 1) (by omega), Nat.zero_mul, Nat.add_zero] at e2
    rw [e1]
    show ns (n + 1) (fun k => fc n k * x ^ k) * (x + 1) = fc (n + 1) 0 * x ^ 0 + _
    rw [fc_0]
    have e3 : fc n 0 * x ^ 0 = 1 := by rw [fc_0, Nat.pow_zero]
    rw [e3] at e2
    rw [Nat.pow_zero, Nat.mul_add, Nat.mul_comm x]
    omega
theorem fm_mid {p : Nat} (hp : fm_ok p) (x : Nat) : ∀ n, n < p → p ∣ ns n (fun k => fc p (k + 1) * x ^ (k + 1))
  | 0, _ => Nat.dvd_zero p
  | n + 1, h => by
    rw [ns_s]
    refine Nat.dvd_add (fm_mid hp x n (by omega)) ?_
    refine Nat.dvd_mul_right_of_dvd ?_ _
    obtain ⟨q, rfl⟩ : ∃ q, p = q + 1 := ⟨p - 1, by omega⟩
    have hd : q + 1 ∣ (n + 1) * fc (q + 1) (n + 1) := ⟨fc q n, fc_id q n⟩
    exact (Nat.Coprime.symm (hp.2 (n + 1) (by omega) (by omega))).dvd_of_dvd_mul_left hd
theorem fm_dream {p : Nat} (hp : fm_ok p) (x : Nat) : (x + 1) ^ p % p = (x ^ p + 1) % p := by
  have h1 := hp.1
  obtain ⟨q, rfl⟩ : ∃ q, p = q + 2 := ⟨p - 2, by omega⟩
  rw [fm_bin x (q + 2), ns_s, ns_sh (q + 1)]
  obtain ⟨c, hc⟩ := fm_mid hp x (q + 1) (by omega)
  show (fc (q + 2) 0 * x ^ 0 + ns (q + 1) (fun k => fc (q + 2) (k + 1) * x ^ (k + 1)) + fc (q + 2) (q + 2) * x ^ (q + 2)) % (q + 2) = _
  rw [hc, fc_0, fc_nn, Nat.pow_zero, Nat.one_mul, Nat.one_mul]
  have e : 1 + (q + 2) * c + x ^ (q + 2) = x ^ (q + 2) + 1 + (q + 2) * c := by omega
  rw [e, Nat.add_mul_mod_self_left]
theorem fm_all {p : Nat} (hp : fm_ok p) : ∀ a : Nat, a ^ p % p = a % p
  | 0 => by rw [Nat.zero_pow (by have := hp.1; omega)]
  | a + 1 => by rw [fm_dream hp a, Nat.add_mod, fm_all hp a, ← Nat.add_mod]
/-- the inverse -/
theorem fm_inv {p : Nat} (hp : fm_ok p) {a : Nat} (h0 : 0 < a) (ha : a < p) : a * a ^ (p - 2) % p = 1 := by
  have h1 := hp.1
  obtain ⟨q, rfl⟩ : ∃ q, p = q + 2 := ⟨p - 2, by omega⟩
  show a * a ^ q % (q + 2) = 1
  have e : a * a ^ q = a ^ (q + 1) := by rw [Nat.pow_succ, Nat.mul_comm]
  rw [e]
  have h2 := fm_all hp a
  have h3 : a ^ (q + 2) = a * a ^ (q + 1) := by rw [Nat.pow_succ, Nat.mul_comm]
  rw [h3] at h2
  have hpos : 0 < a ^ (q + 1) := Nat.pow_pos h0
  have hd : (q + 2) ∣ a * (a ^ (q + 1) - 1) := by
    have hle : a ≤ a * a ^ (q + 1) := Nat.le_mul_of_pos_right a hpos
    have e2 : a * (a ^ (q + 1) - 1) = a * a ^ (q + 1) - a := by rw [Nat.mul_sub, Nat.mul_one]
    rw [e2]
    exact Nat.dvd_of_mod_eq_zero (Nat.sub_mod_eq_zero_of_mod_eq h2)
  have hd2 := (Nat.Coprime.symm (hp.2 a h0 ha)).dvd_of_dvd_mul_left hd
  obtain ⟨c, hc⟩ := hd2
  have h4 : a ^ (q + 1) = (q + 2) * c + 1 := by omega
  rw [h4, Nat.mul_add_mod]
  exact Nat.mod_eq_of_lt (by omega)
