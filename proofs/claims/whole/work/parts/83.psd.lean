/-! Pure rows: a symmetric matrix whose form is never below 0: its minors, and the adjugate's entries -/
def pd_sg (n : Nat) : Int := if n % 2 = 0 then 1 else -1
theorem pd_sg_s (n : Nat) : pd_sg (n + 1) = - pd_sg n := by
  unfold pd_sg
  by_cases h : n % 2 = 0
  · rw [if_pos h, if_neg (by omega)]
  · rw [if_neg h, if_pos (by omega)]; rfl
theorem pd_sg_sq (n : Nat) : pd_sg n * pd_sg n = 1 := by
  unfold pd_sg
  by_cases h : n % 2 = 0
  · rw [if_pos h]; rfl
  · rw [if_neg h]; rfl
/-- the determinant of the rows and columns l -/
def pd_D (A : Nat → Nat → Int) (l : List Nat) : Int := pd_sg l.length * ch_P A l l.length
theorem pd_D_nil (A : Nat → Nat → Int) : pd_D A [] = 1 := rfl
theorem pd_adj (A : Nat → Nat → Int) {l : List Nat} (hn : l.Nodup) {v : Nat} (hv : v ∈ l) : ∃ a : Nat → Int, (∀ p ∈ l, mx_sum l (fun q => A p q * a q) = if p = v then pd_D A l else 0) ∧ a v = pd_D A (l.erase v) := by
  obtain ⟨w, h1, h2, h3, h4⟩ := (ch_col A hn).2 v hv
  have hpos : 0 < l.length := List.length_pos_of_mem hv
  obtain ⟨n, hl⟩ : ∃ n, l.length = n + 1 := ⟨l.length - 1, by omega⟩
  have hle : (l.erase v).length = n := by
    have := List.length_erase_of_mem hv
    omega
  refine ⟨fun p => pd_sg n * w p n, fun p hp => ?_, ?_⟩
  · have e1 : mx_sum l (fun q => A p q * (pd_sg n * w q n)) = pd_sg n * mx_sum l (fun q => A p q * w q n) := by
      rw [← mx_sum_mul]
      exact mx_sum_congr (fun q _ => by grind)
    have e2 := h4 p hp n
    rw [h1 p (n + 1) (by omega)] at e2
    rw [e1]
    unfold pd_D
    rw [hl, pd_sg_s]
    by_cases hpv : p = v
    · rw [if_pos hpv] at e2 ⊢
      have : mx_sum l (fun q => A p q * w q n) = - ch_P A l (n + 1) := by omega
      rw [this]; grind
    · rw [if_neg hpv] at e2 ⊢
      have : mx_sum l (fun q => A p q * w q n) = 0 := by omega
      rw [this]; grind
  · show pd_sg n * w v n = _
    unfold pd_D
    rw [hle, h2]
def pd_q (A : Nat → Nat → Int) (l : List Nat) (x y : Nat → Int) : Int := mx_sum l (fun p => x p * mx_sum l (fun q => A p q * y q))
def pd_sym (A : Nat → Nat → Int) (l : List Nat) : Prop := ∀ p ∈ l, ∀ q ∈ l, A p q = A q p
def pd_pos (A : Nat → Nat → Int) (l : List Nat) : Prop := ∀ x : Nat → Int, 0 ≤ pd_q A l x x
theorem pd_q_sym {A : Nat → Nat → Int} {l : List Nat} (h : pd_sym A l) (x y : Nat → Int) : pd_q A l x y = pd_q A l y x := by
  unfold pd_q
  have e1 : mx_sum l (fun p => x p * mx_sum l (fun q => A p q * y q)) = mx_sum l (fun p => mx_sum l (fun q => x p * (A p q * y q))) := mx_sum_congr (fun p _ => (mx_sum_mul _ _ _).symm)
  have e2 : mx_sum l (fun p => y p * mx_sum l (fun q => A p q * x q)) = mx_sum l (fun p => mx_sum l (fun q => y p * (A p q * x q))) := mx_sum_congr (fun p _ => (mx_sum_mul _ _ _).symm)
  rw [e1, e2, mx_sum_swap]
  refine mx_sum_congr (fun p hp => mx_sum_congr (fun q hq => ?_))
  rw [h q hq p hp]; grind
theorem pd_q_addl (A : Nat → Nat → Int) (l : List Nat) (x y z : Nat → Int) (c : Int) : pd_q A l (fun p => x p + c * y p) z = pd_q A l x z + c * pd_q A l y z := by
  unfold pd_q
  rw [← mx_sum_mul, ← mx_sum_add]
  exact mx_sum_congr (fun p _ => by grind)
theorem pd_q_lin {A : Nat → Nat → Int} {l : List Nat} (h : pd_sym A l) (x y : Nat → Int) (c : Int) : pd_q A l (fun p => x p + c * y p) (fun p => x p + c * y p) = pd_q A l x x + 2 * c * pd_q A l x y + c * c * pd_q A l y y := by
  rw [pd_q_addl, pd_q_sym h x (fun p => x p + c * y p), pd_q_sym h y (fun p => x p + c * y p), pd_q_addl, pd_q_addl, pd_q_sym h y x]
  grind
/-- where the form is 0, the matrix answers 0 -/
theorem pd_null {A : Nat → Nat → Int} {l : List Nat} (h : pd_sym A l) (hp : pd_pos A l) {x : Nat → Int} (h0 : pd_q A l x x = 0) (y : Nat → Int) : pd_q A l y x = 0 := by
  have k : ∀ c : Int, 0 ≤ pd_q A l y y + 2 * c * pd_q A l y x := by
    intro c
    have := hp (fun p => y p + c * x p)
    rw [pd_q_lin h, h0] at this
    omega
  generalize pd_q A l y x = z at k ⊢
  have hy := hp y
  generalize pd_q A l y y = w at k hy
  rcases Int.lt_trichotomy z 0 with hz | hz | hz
  · have k1 := k (w + 1)
    have : 2 * (w + 1) * z ≤ 2 * (w + 1) * (-1) := Int.mul_le_mul_of_nonneg_left (by omega) (by omega)
    omega
  · exact hz
  · have k1 := k (-(w + 1))
    have : 2 * (w + 1) * 1 ≤ 2 * (w + 1) * z := Int.mul_le_mul_of_nonneg_left (by omega) (by omega)
    have e : 2 * -(w + 1) * z = - (2 * (w + 1) * z) := by grind
    omega
theorem pd_row {A : Nat → Nat → Int} {l : List Nat} (hn : l.Nodup) {v : Nat} (hv : v ∈ l) (x : Nat → Int) : pd_q A l (fun p => if v = p then 1 else 0) x = mx_sum l (fun q => A v q * x q) := by
  unfold pd_q
  have e : mx_sum l (fun p => (if v = p then 1 else 0) * mx_sum l (fun q => A p q * x q)) = mx_sum l (fun p => if v = p then mx_sum l (fun q => A p q * x q) else 0) := by
    refine mx_sum_congr (fun p _ => ?_)
    by_cases h : v = p
    · rw [if_pos h, if_pos h, Int.one_mul]
    · rw [if_neg h, if_neg h, Int.zero_mul]
  rw [e, mx_sum_delta hn hv (fun p => mx_sum l (fun q => A p q * x q))]
/-- the form at x, where A x = d e_v -/
theorem pd_at {A : Nat → Nat → Int} {l : List Nat} (hn : l.Nodup) {v : Nat} (hv : v ∈ l) {x : Nat → Int} {d : Int} (h : ∀ p ∈ l, mx_sum l (fun q => A p q * x q) = if p = v then d else 0) (y : Nat → Int) : pd_q A l y x = y v * d := by
  unfold pd_q
  have e : mx_sum l (fun p => y p * mx_sum l (fun q => A p q * x q)) = mx_sum l (fun p => if v = p then y p * d else 0) := by
    refine mx_sum_congr (fun p hp => ?_)
    rw [h p hp]
    by_cases hpv : p = v
    · rw [if_pos hpv, if_pos hpv.symm]
    · rw [if_neg hpv, if_neg (fun q => hpv q.symm), Int.mul_zero]
  rw [e, mx_sum_delta hn hv (fun p => y p * d)]
theorem pd_erase {A : Nat → Nat → Int} {l : List Nat} (hn : l.Nodup) {v : Nat} (hv : v ∈ l) (hp : pd_pos A l) : pd_pos A (l.erase v) := by
  intro x
  have hperm : l.Perm (v :: l.erase v) := List.perm_cons_erase hv
  have hve : v ∉ l.erase v := (List.nodup_cons.mp (hperm.nodup_iff.mp hn)).1
  have hx := hp (fun p => if p = v then 0 else x p)
  have inner : ∀ p, mx_sum l (fun q => A p q * (if q = v then 0 else x q)) = mx_sum (l.erase v) (fun q => A p q * x q) := by
    intro p
    rw [mx_sum_perm hperm]
    simp only [mx_sum]
    rw [if_pos trivial, Int.mul_zero, Int.zero_add]
    exact mx_sum_congr (fun q hq => by rw [if_neg (mx_ne hve hq)])
  have e : pd_q A l (fun p => if p = v then 0 else x p) (fun p => if p = v then 0 else x p) = pd_q A (l.erase v) x x := by
    unfold pd_q
    rw [mx_sum_perm hperm]
    simp only [mx_sum]
    rw [if_pos trivial, Int.zero_mul, Int.zero_add]
    exact mx_sum_congr (fun p hq => by rw [if_neg (mx_ne hve hq), inner p])
  rw [e] at hx
  exact hx
theorem pd_main {A : Nat → Nat → Int} : ∀ (n : Nat) (l : List Nat), l.length = n → l.Nodup → pd_sym A l → pd_pos A l → 0 ≤ pd_D A l ∧ ∀ v ∈ l, pd_D A l ≤ A v v * pd_D A (l.erase v) ∧ (pd_D A (l.erase v) = 0 → pd_D A l = 0)
  | 0, l, hl, _, _, _ => by
    have : l = [] := List.length_eq_zero_iff.mp hl
    subst this
    exact ⟨by rw [pd_D_nil]; decide, fun v hv => absurd hv List.not_mem_nil⟩
  | n + 1, l, hl, hn, hs, hp => by
    have all : ∀ v ∈ l, 0 ≤ pd_D A l ∧ pd_D A l ≤ A v v * pd_D A (l.erase v) ∧ (pd_D A (l.erase v) = 0 → pd_D A l = 0) := by
      intro v hv
      have hperm : l.Perm (v :: l.erase v) := List.perm_cons_erase hv
      have hn2 : (v :: l.erase v).Nodup := hperm.nodup_iff.mp hn
      obtain ⟨hve, hne⟩ := List.nodup_cons.mp hn2
      have hlen : (l.erase v).length = n := by
        have := hperm.length_eq
        rw [List.length_cons] at this
        omega
      have hin : ∀ p ∈ l.erase v, p ∈ l := fun p h => List.mem_of_mem_erase h
      have hpe := pd_erase hn hv hp
      obtain ⟨i0, -⟩ := pd_main n (l.erase v) hlen hne (fun p hp q hq => hs p (hin p hp) q (hin q hq)) hpe
      obtain ⟨a, ha, hav⟩ := pd_adj A hn hv
      have hq := pd_at hn hv ha a
      rw [hav] at hq
      have h0 := hp a
      by_cases hz : pd_D A (l.erase v) = 0
      · rw [hz, Int.zero_mul] at hq
        have h1 := pd_null hs hp hq (fun p => if v = p then 1 else 0)
        rw [pd_at hn hv ha, if_pos rfl, Int.one_mul] at h1
        rw [h1, hz, Int.mul_zero]
        exact ⟨Int.le_refl 0, Int.le_refl 0, fun _ => rfl⟩
      · have hpos : 0 < pd_D A (l.erase v) := by omega
        rw [hq] at h0
        have hD : 0 ≤ pd_D A l := by
          rcases Int.lt_or_le (pd_D A l) 0 with h | h
          · exact absurd (Int.mul_neg_of_pos_of_neg hpos h) (by omega)
          · exact h
        refine ⟨hD, ?_, fun h => absurd h hz⟩
        have row : ∀ p, mx_sum l (fun q => A p q * a q) = A p v * pd_D A (l.erase v) + mx_sum (l.erase v) (fun q => A p q * a q) := by
          intro p
          rw [mx_sum_perm hperm]
          simp only [mx_sum]
          rw [hav]
        have r1 : ∀ p ∈ l.erase v, mx_sum (l.erase v) (fun q => A p q * a q) = - (A p v * pd_D A (l.erase v)) := by
          intro p hpp
          have := ha p (hin p hpp)
          rw [row p, if_neg (mx_ne hve hpp)] at this
          omega
        have hf := hpe a
        have e1 : pd_q A (l.erase v) a a = - (pd_D A (l.erase v)) * mx_sum (l.erase v) (fun p => a p * A p v) := by
          unfold pd_q
          rw [← mx_sum_mul]
          refine mx_sum_congr (fun p hpp => ?_)
          rw [r1 p hpp]; grind
        rw [e1] at hf
        have hle : mx_sum (l.erase v) (fun p => a p * A p v) ≤ 0 := by
          rcases Int.lt_or_le 0 (mx_sum (l.erase v) (fun p => a p * A p v)) with h | h
          · have := Int.mul_pos hpos h
            have e9 : - (pd_D A (l.erase v)) * mx_sum (l.erase v) (fun p => a p * A p v) = - (pd_D A (l.erase v) * mx_sum (l.erase v) (fun p => a p * A p v)) := by grind
            omega
          · exact h
        have rv := ha v hv
        rw [if_pos rfl, row v] at rv
        have e2 : mx_sum (l.erase v) (fun q => A v q * a q) = mx_sum (l.erase v) (fun p => a p * A p v) := mx_sum_congr (fun q hq => by rw [hs v hv q (hin q hq)]; exact Int.mul_comm _ _)
        omega
    match l, hl with
    | v :: t, _ => exact ⟨(all v List.mem_cons_self).1, fun u hu => (all u hu).2⟩
/-- entries of the adjugate, out of its diagonal -/
theorem pd_entry {A : Nat → Nat → Int} {l : List Nat} (hn : l.Nodup) (hs : pd_sym A l) (hp : pd_pos A l) (hD : 0 < pd_D A l) {u v : Nat} (hu : u ∈ l) (hv : v ∈ l) {a b : Nat → Int} (ha : ∀ p ∈ l, mx_sum l (fun q => A p q * a q) = if p = v then pd_D A l else 0) (hb : ∀ p ∈ l, mx_sum l (fun q => A p q * b q) = if p = u then pd_D A l else 0) : 2 * a u ≤ a v + b u ∧ - (a v + b u) ≤ 2 * a u := by
  have e1 : pd_q A l b a = b v * pd_D A l := pd_at hn hv ha b
  have e2 : pd_q A l a b = a u * pd_D A l := pd_at hn hu hb a
  have e3 : pd_q A l a a = a v * pd_D A l := pd_at hn hv ha a
  have e4 : pd_q A l b b = b u * pd_D A l := pd_at hn hu hb b
  have k : ∀ c : Int, c * c = 1 → 0 ≤ a v + 2 * c * a u + b u := by
    intro c hc
    have := hp (fun p => a p + c * b p)
    rw [pd_q_lin hs, e2, e3, e4, hc] at this
    have e5 : a v * pd_D A l + 2 * c * (a u * pd_D A l) + 1 * (b u * pd_D A l) = pd_D A l * (a v + 2 * c * a u + b u) := by grind
    rw [e5] at this
    rcases Int.lt_or_le (a v + 2 * c * a u + b u) 0 with h | h
    · exact absurd (Int.mul_neg_of_pos_of_neg hD h) (by omega)
    · exact h
  have k1 := k 1 rfl
  have k2 := k (-1) rfl
  omega
/-- a solution's entries, out of the adjugate's -/
theorem pd_sol {A : Nat → Nat → Int} {l : List Nat} (hn : l.Nodup) (hs : pd_sym A l) (hD : 0 < pd_D A l) {v : Nat} (hv : v ∈ l) {a y b : Nat → Int} (ha : ∀ p ∈ l, mx_sum l (fun q => A p q * a q) = if p = v then pd_D A l else 0) (hy : ∀ p ∈ l, mx_sum l (fun q => A p q * y q) = pd_D A l * b p) : y v = mx_sum l (fun p => a p * b p) := by
  have e1 : pd_q A l y a = y v * pd_D A l := pd_at hn hv ha y
  have e2 : pd_q A l a y = pd_D A l * mx_sum l (fun p => a p * b p) := by
    unfold pd_q
    rw [← mx_sum_mul]
    refine mx_sum_congr (fun p hp => ?_)
    rw [hy p hp]; grind
  rw [pd_q_sym hs, e2] at e1
  have : pd_D A l * mx_sum l (fun p => a p * b p) = pd_D A l * y v := by rw [e1]; exact Int.mul_comm _ _
  exact (Int.eq_of_mul_eq_mul_left (Int.ne_of_gt hD) this).symm
