/-! Longs as images of integers; what a store keeps -/
def jl (x : Int) : Int64 := Int64.ofInt x
theorem jl_add (a b : Int) : jl a + jl b = jl (a + b) := (Int64.ofInt_add a b).symm
theorem jl_sub (a b : Int) : jl a - jl b = jl (a - b) := (Int64.ofInt_sub a b).symm
theorem jl_mul (a b : Int) : jl a * jl b = jl (a * b) := (Int64.ofInt_mul a b).symm
theorem jl_neg (a : Int) : - jl a = jl (-a) := (Int64.ofInt_neg a).symm
theorem jl_toInt {x : Int} (h1 : -9223372036854775808 ≤ x) (h2 : x < 9223372036854775808) : (jl x).toInt = x := Int64.toInt_ofInt_of_le h1 (by omega)
theorem jl_of (x : Int64) : x = jl x.toInt := (Int64.ofInt_toInt x).symm
theorem jl_z {x : Int} (h1 : -9223372036854775808 ≤ x) (h2 : x < 9223372036854775808) : jl x = 0 ↔ x = 0 := by
  constructor
  · intro h
    have e := jl_toInt h1 h2
    rw [h] at e
    exact e.symm.trans (by decide)
  · intro h
    rw [h]
    rfl
theorem nI_iI (n : Nat) : nI n = iI (n : Int) := Int32.ofInt_eq_ofNat.symm
theorem iI_add (a b : Int) : iI a + iI b = iI (a + b) := (Int32.ofInt_add a b).symm
theorem iI_sub (a b : Int) : iI a - iI b = iI (a - b) := (Int32.ofInt_sub a b).symm
theorem iI_mul (a b : Int) : iI a * iI b = iI (a * b) := (Int32.ofInt_mul a b).symm
theorem iI_neg (a : Int) : - iI a = iI (-a) := (Int32.ofInt_neg a).symm
theorem iI_z {x : Int} (h1 : -2147483648 ≤ x) (h2 : x < 2147483648) : iI x = 0 ↔ x = 0 := by
  constructor
  · intro h
    have e := iI_toInt h1 h2
    rw [h] at e
    exact e.symm.trans (by decide)
  · intro h
    rw [h]
    rfl
theorem iI_le0 {x : Int} (h1 : -2147483648 ≤ x) (h2 : x < 2147483648) : iI x ≤ 0 ↔ x ≤ 0 := by
  rw [Int32.le_iff_toInt_le, iI_toInt h1 h2, Int32.toInt_zero]
theorem iI_0le {x : Int} (h1 : -2147483648 ≤ x) (h2 : x < 2147483648) : 0 ≤ iI x ↔ 0 ≤ x := by
  rw [Int32.le_iff_toInt_le, iI_toInt h1 h2, Int32.toInt_zero]
theorem iI_eq {x y : Int} (h1 : -2147483648 ≤ x) (h2 : x < 2147483648) (h3 : -2147483648 ≤ y) (h4 : y < 2147483648) : iI x = iI y ↔ x = y := by
  constructor
  · intro h
    rw [← iI_toInt h1 h2, ← iI_toInt h3 h4, h]
  · intro h
    rw [h]
theorem jl_i {x : Int} (h1 : -2147483648 ≤ x) (h2 : x < 2147483648) : (iI x).toInt64 = jl x := by
  apply Int64.toInt_inj.mp
  rw [Int32.toInt_toInt64, iI_toInt h1 h2, jl_toInt (by omega) (by omega)]
theorem jl_n {n : Nat} (h : n < 2147483648) : (nI n).toInt64 = jl n := by
  rw [nI_iI, jl_i (by omega) (by omega)]
theorem jl_div (a b : Int64) : a / b = jl (a.toInt.tdiv b.toInt) := by
  apply Int64.toInt_inj.mp
  rw [Int64.toInt_div]
  show _ = (Int64.ofInt _).toInt
  rw [Int64.toInt_ofInt]
theorem jl_rem (a b : Int64) : a - a / b * b = jl (a.toInt.tmod b.toInt) := by
  rw [jl_div]
  have h : a - jl (a.toInt.tdiv b.toInt) * b = jl a.toInt - jl (a.toInt.tdiv b.toInt) * jl b.toInt := by rw [← jl_of a, ← jl_of b]
  rw [h, jl_mul, jl_sub, Int.tmod_def, Int.mul_comm]
theorem jl_rm {x m : Int} (h0 : 0 ≤ x) (h1 : x < 9223372036854775808) (h2 : 0 < m) (h3 : m < 9223372036854775808) : jl x - jl x / jl m * jl m = jl (x % m) := by
  rw [jl_rem, jl_toInt (by omega) h1, jl_toInt (by omega) h3, Int.tmod_eq_emod_of_nonneg h0]
theorem md_tm (x m : Int) : (x.tmod m + m) % m = x % m := by
  rw [Int.tmod_def, Int.emod_eq_emod_iff_emod_sub_eq_zero, show x - m * x.tdiv m + m - x = m * (1 - x.tdiv m) by rw [Int.mul_sub, Int.mul_one]; omega]
  exact Int.mul_emod_right _ _
theorem tm_rng (x : Int) {m : Int} (h : 0 < m) : -m < x.tmod m ∧ x.tmod m < m := by
  have h1 : (x.tmod m).natAbs < m.natAbs := by
    rw [Int.natAbs_tmod]
    exact Nat.mod_lt _ (by omega)
  omega
/-- the remainder that is never below 0 -/
theorem jl_md {x m : Int} (h1 : -9223372036854775808 ≤ x) (h2 : x < 9223372036854775808) (h3 : 0 < m) (h4 : m < 4611686018427387904) : (jl x - jl x / jl m * jl m) + jl m - ((jl x - jl x / jl m * jl m) + jl m) / jl m * jl m = jl (x % m) := by
  have hr := tm_rng x h3
  have e : jl x - jl x / jl m * jl m = jl (x.tmod m) := by
    rw [jl_rem, jl_toInt h1 h2, jl_toInt (by omega) (by omega)]
  rw [e, jl_add, jl_rm (by omega) (by omega) h3 (by omega), md_tm]
/-! rows of longs -/
theorem sJ_1 (z : gS) (k : Nat) (h : Nat → Int64) : (s_J z k h).1 = z.1 := rfl
theorem sJ_21 (z : gS) (k : Nat) (h : Nat → Int64) : (s_J z k h).2.1 = z.2.1 := rfl
theorem sJ_221 (z : gS) (k : Nat) (h : Nat → Int64) : (s_J z k h).2.2.1 = z.2.2.1 := rfl
theorem sJ_self (z : gS) (k : Nat) (h : Nat → Int64) : (s_J z k h).2.2.2 k = h := by
  show va_up z.2.2.2 k h k = h
  rw [va_up_self]
theorem sJ_ne (z : gS) {k j : Nat} (h : Nat → Int64) (q : j ≠ k) : (s_J z k h).2.2.2 j = z.2.2.2 j := by
  show va_up z.2.2.2 k h j = z.2.2.2 j
  rw [va_up_ne _ _ q]
theorem sl_1 (z : gS) (k : Nat) (x : Int64) : (s_l z k x).1 = z.1 := rfl
theorem sl_22 (z : gS) (k : Nat) (x : Int64) : (s_l z k x).2.2 = z.2.2 := rfl
theorem sl_self (z : gS) (k : Nat) (x : Int64) : (s_l z k x).2.1 k = x := by
  show va_up z.2.1 k x k = x
  rw [va_up_self]
theorem sl_ne (z : gS) {k j : Nat} (x : Int64) (q : j ≠ k) : (s_l z k x).2.1 j = z.2.1 j := by
  show va_up z.2.1 k x j = z.2.1 j
  rw [va_up_ne _ _ q]
/-! what is the same in two stores, but for the places listed -/
def fr (a b c d : List Nat) (z y : gS) : Prop := (∀ k, k ∉ a → z.1 k = y.1 k) ∧ (∀ k, k ∉ b → z.2.1 k = y.2.1 k) ∧ (∀ k, k ∉ c → z.2.2.1 k = y.2.2.1 k) ∧ ∀ k, k ∉ d → z.2.2.2 k = y.2.2.2 k
theorem fr_rf (a b c d : List Nat) (z : gS) : fr a b c d z z := ⟨fun _ _ => rfl, fun _ _ => rfl, fun _ _ => rfl, fun _ _ => rfl⟩
theorem fr_tr {a b c d : List Nat} {x y z : gS} (h1 : fr a b c d x y) (h2 : fr a b c d y z) : fr a b c d x z := ⟨fun k q => (h1.1 k q).trans (h2.1 k q), fun k q => (h1.2.1 k q).trans (h2.2.1 k q), fun k q => (h1.2.2.1 k q).trans (h2.2.2.1 k q), fun k q => (h1.2.2.2 k q).trans (h2.2.2.2 k q)⟩
theorem fr_w {a b c d a' b' c' d' : List Nat} {x y : gS} (h : fr a b c d x y) (ha : ∀ k ∈ a, k ∈ a') (hb : ∀ k ∈ b, k ∈ b') (hc : ∀ k ∈ c, k ∈ c') (hd : ∀ k ∈ d, k ∈ d') : fr a' b' c' d' x y := ⟨fun k q => h.1 k (fun m => q (ha k m)), fun k q => h.2.1 k (fun m => q (hb k m)), fun k q => h.2.2.1 k (fun m => q (hc k m)), fun k q => h.2.2.2 k (fun m => q (hd k m))⟩
theorem fr_i {a b c d : List Nat} (z : gS) {k : Nat} (x : Int32) (hk : k ∈ a) : fr a b c d (s_i z k x) z := ⟨fun j q => si_ne z x (fun e => q (e ▸ hk)), fun _ _ => rfl, fun _ _ => rfl, fun _ _ => rfl⟩
theorem frl_ {a b c d : List Nat} (z : gS) {k : Nat} (x : Int64) (hk : k ∈ b) : fr a b c d (s_l z k x) z := ⟨fun _ _ => rfl, fun j q => sl_ne z x (fun e => q (e ▸ hk)), fun _ _ => rfl, fun _ _ => rfl⟩
theorem fr_I {a b c d : List Nat} (z : gS) {k : Nat} (x : Nat → Int32) (hk : k ∈ c) : fr a b c d (s_I z k x) z := ⟨fun _ _ => rfl, fun _ _ => rfl, fun j q => sI_ne z x (fun e => q (e ▸ hk)), fun _ _ => rfl⟩
theorem fr_J {a b c d : List Nat} (z : gS) {k : Nat} (x : Nat → Int64) (hk : k ∈ d) : fr a b c d (s_J z k x) z := ⟨fun _ _ => rfl, fun _ _ => rfl, fun _ _ => rfl, fun j q => sJ_ne z x (fun e => q (e ▸ hk))⟩
theorem fr_os {z y : gS} (h : osame z y) : fr [3, 4] [] [12] [] z y := ⟨fun k q => h.1 k (fun e => q (by rw [e]; decide)) (fun e => q (by rw [e]; decide)), fun k _ => by rw [h.2.1], fun k q => h.2.2.1 k (fun e => q (by rw [e]; decide)), fun k _ => by rw [h.2.2.2]⟩
theorem fr_ns {k0 : Nat} {z y : gS} (h : nsame k0 z y) : fr [] [] [k0] [] z y := ⟨fun k _ => by rw [h.1], fun k _ => by rw [h.2.1], fun k q => h.2.2.1 k (fun e => q (by rw [e]; exact List.mem_singleton_self _)), fun k _ => by rw [h.2.2.2]⟩
theorem fr_rs {z y : gS} (h : rsame z y) : fr [2] [] [11] [] z y := ⟨fun k q => h.1 k (fun e => q (by rw [e]; decide)), fun k _ => by rw [h.2.1], fun k q => h.2.2.1 k (fun e => q (by rw [e]; decide)), fun k _ => by rw [h.2.2.2]⟩
