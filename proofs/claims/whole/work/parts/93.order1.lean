/-! The program's order: bits, the least joined -/
def pcb (x : Nat) : Nat := x % 2 + x / 2 % 2 + x / 4 % 2 + x / 8 % 2 + x / 16 % 2
def bt5 (x n : Nat) : Nat := x / 2 ^ n % 2
theorem pcb_le (x : Nat) : pcb x ≤ 5 := by
  unfold pcb
  omega
def jbc (p0 : Int32) : Int32 :=
  (fun v1 : Int32 => (fun v3 : Int32 => (fun v5 : Int32 => (fun v7 : Int32 => (fun v9 : Int32 => (v9 &&& (63 : Int32))) (v7 + ((v7.toUInt32 >>> ((16 : Int32).toUInt32 &&& Int32.toUInt32 31)).toInt32))) (v5 + ((v5.toUInt32 >>> ((8 : Int32).toUInt32 &&& Int32.toUInt32 31)).toInt32))) ((v3 + ((v3.toUInt32 >>> ((4 : Int32).toUInt32 &&& Int32.toUInt32 31)).toInt32)) &&& (252645135 : Int32))) ((v1 &&& (858993459 : Int32)) + (((v1.toUInt32 >>> ((2 : Int32).toUInt32 &&& Int32.toUInt32 31)).toInt32) &&& (858993459 : Int32)))) (p0 - (((p0.toUInt32 >>> ((1 : Int32).toUInt32 &&& Int32.toUInt32 31)).toInt32) &&& (1431655765 : Int32)))
theorem jbc_f (z : gS) (x : Int32) : f_J_bitCount z x = some (jbc x, z) := rfl
theorem jbc_32 : ∀ x, x < 32 → jbc (nI x) = nI (pcb x) := by decide +kernel
theorem f_bits (z : gS) {x : Nat} (h : x < 32) : f_J_bitCount z (nI x) = some (nI (pcb x), z) := by
  rw [jbc_f, jbc_32 x h]
/-- x without the bits of t -/
def nmk (x t : Nat) : Nat := x - (x &&& t)
theorem nmk_ok : ∀ x, x < 32 → ∀ t, t < 32 → nI x &&& (nI t ^^^ (-1 : Int32)) = nI (nmk x t) ∧ nmk x t < 32 := by decide +kernel
/-- of the nodes of am, the least one with the fewest neighbours; 5 for none -/
def lj (nb : Nat → Nat) (am : Nat) : Nat → Nat → Nat → Nat → Nat
  | 0, best, _, _ => best
  | f + 1, best, few, n => if bt5 am n = 0 then lj nb am f best few (n + 1) else if few ≤ pcb (nb n) then lj nb am f best few (n + 1) else lj nb am f n (pcb (nb n)) (n + 1)
def ljr (b : Nat) : Int32 := if b = 5 then -1 else nI b
theorem ljr_lt {b : Nat} (h : b < 5) : ljr b = nI b := if_neg (by omega)
theorem lp_lj {z : gS} {nb : Nat → Nat} {am : Nat} (hn : ∀ k, k < 5 → z.2.2.1 13 k = nI (nb k) ∧ nb k < 32) (ha : am < 32) : ∀ (g f n best few : Nat), n + g = 5 → g < f → few ≤ 5 → l_N_leastJoined_7 f z (nI am) (ljr best) (nI few) (nI n) = some (ljr (lj nb am g best few n), z)
  | 0, f + 1, n, best, few, h1, h2, h3 => by
    have : n = 5 := by omega
    subst this
    rw [l_N_leastJoined_7, if_pos (by decide)]
    rfl
  | g + 1, f + 1, n, best, few, h1, h2, h3 => by
    have hn5 : n < 5 := by omega
    have ck := ck_in hn5 (by decide)
    obtain ⟨e1, e2⟩ := hn n hn5
    rw [l_N_leastJoined_7, if_neg (show ¬ (5 : Int32) ≤ nI n from nI_ge (b := 5) hn5 (by decide)), if_neg ck, nI_clamp (show n < 2 ^ 31 by omega), e1, f_bits z e2, bd2_s, bit_th am ha n hn5, nI_1]
    show _ = some (ljr (if bt5 am n = 0 then lj nb am g best few (n + 1) else if few ≤ pcb (nb n) then lj nb am g best few (n + 1) else lj nb am g n (pcb (nb n)) (n + 1)), z)
    have hv : am / 2 ^ n % 2 = 0 ∨ am / 2 ^ n % 2 = 1 := by omega
    rcases hv with hv | hv
    · rw [hv, if_pos (show nI 0 = 0 from rfl), if_pos (show bt5 am n = 0 from hv)]
      exact lp_lj hn ha g f (n + 1) best few (by omega) (by omega) h3
    · rw [hv, if_neg (show ¬ nI 1 = 0 by decide), if_neg (show ¬ bt5 am n = 0 by unfold bt5; omega)]
      have hp := pcb_le (nb n)
      by_cases q : few ≤ pcb (nb n)
      · rw [if_pos q, if_pos (nI_le q (by omega))]
        exact lp_lj hn ha g f (n + 1) best few (by omega) (by omega) h3
      · rw [if_neg q, if_neg (nI_ge (by omega) (by omega))]
        have := lp_lj hn ha g f (n + 1) n (pcb (nb n)) (by omega) (by omega) hp
        rw [ljr_lt hn5] at this
        exact this
theorem f_lj {z : gS} {nb : Nat → Nat} {am : Nat} (hn : ∀ k, k < 5 → z.2.2.1 13 k = nI (nb k) ∧ nb k < 32) (ha : am < 32) : f_N_leastJoined z (nI am) = some (ljr (lj nb am 5 5 5 0), z) := by
  unfold f_N_leastJoined
  have h := lp_lj hn ha 5 200 0 5 5 rfl (by decide) (by decide)
  have h' : l_N_leastJoined_7 200 z (nI am) (-1) 5 0 = some (ljr (lj nb am 5 5 5 0), z) := h
  rw [h', bd2_s]
