/-! The graph of the bars as a number, and both orders on it -/
theorem nbS_lt {fi se : Nat → Nat} : ∀ (nb : Nat), (∀ i, i < nb → fi i < 5 ∧ se i < 5 ∧ fi i ≠ se i) → ∀ n, 5 ≤ n → nbS fi se nb n = 0
  | 0, _, _, _ => rfl
  | nb + 1, h, n, hn => by
    obtain ⟨a, b, _⟩ := h nb (by omega)
    show (if n = fi nb then nbS fi se nb n ||| 2 ^ (se nb) else if n = se nb then nbS fi se nb n ||| 2 ^ (fi nb) else nbS fi se nb n) = 0
    rw [if_neg (by omega), if_neg (by omega)]
    exact nbS_lt nb (fun i hi => h i (by omega)) n hn
theorem nbS_32 {fi se : Nat → Nat} {nb : Nat} (h : ∀ i, i < nb → fi i < 5 ∧ se i < 5 ∧ fi i ≠ se i) (n : Nat) : nbS fi se nb n < 32 := by
  by_cases q : n < 5
  · exact nb_lt h q
  · rw [nbS_lt nb h n (by omega)]; decide
theorem nbS_sy {fi se : Nat → Nat} {nb : Nat} (h : ∀ i, i < nb → fi i < 5 ∧ se i < 5 ∧ fi i ≠ se i) {a b : Nat} (ha : a < 5) (hb : b < 5) : bt5 (nbS fi se nb a) b = bt5 (nbS fi se nb b) a := by
  have sy : (∃ i, i < nb ∧ jnd fi se a b i) → ∃ i, i < nb ∧ jnd fi se b a i := fun ⟨i, hi, q⟩ => ⟨i, hi, q.symm⟩
  have sy2 : (∃ i, i < nb ∧ jnd fi se b a i) → ∃ i, i < nb ∧ jnd fi se a b i := fun ⟨i, hi, q⟩ => ⟨i, hi, q.symm⟩
  rcases (nb_bit ha hb nb h).2 with ⟨r1, r2⟩ | ⟨r1, r2⟩
  · rcases (nb_bit hb ha nb h).2 with ⟨t1, t2⟩ | ⟨t1, t2⟩
    · rw [r1, t1]
    · exact absurd (sy r2) t2
  · rcases (nb_bit hb ha nb h).2 with ⟨t1, t2⟩ | ⟨t1, t2⟩
    · exact absurd (sy2 t2) r2
    · rw [r1, t1]
def gcode (f : Nat → Nat) : Nat := bt5 (f 0) 1 + 2 * bt5 (f 0) 2 + 4 * bt5 (f 0) 3 + 8 * bt5 (f 0) 4 + 16 * bt5 (f 1) 2 + 32 * bt5 (f 1) 3 + 64 * bt5 (f 1) 4 + 128 * bt5 (f 2) 3 + 256 * bt5 (f 2) 4 + 512 * bt5 (f 3) 4
theorem bt5_le (x n : Nat) : bt5 x n ≤ 1 := by
  unfold bt5
  omega
theorem cd_bits {x0 x1 x2 x3 x4 x5 x6 x7 x8 x9 : Nat} (h0 : x0 ≤ 1) (h1 : x1 ≤ 1) (h2 : x2 ≤ 1) (h3 : x3 ≤ 1) (h4 : x4 ≤ 1) (h5 : x5 ≤ 1) (h6 : x6 ≤ 1) (h7 : x7 ≤ 1) (h8 : x8 ≤ 1) (h9 : x9 ≤ 1) {g : Nat} (hg : g = x0 + 2 * x1 + 4 * x2 + 8 * x3 + 16 * x4 + 32 * x5 + 64 * x6 + 128 * x7 + 256 * x8 + 512 * x9) : g < 1024 ∧ bt5 g 0 = x0 ∧ bt5 g 1 = x1 ∧ bt5 g 2 = x2 ∧ bt5 g 3 = x3 ∧ bt5 g 4 = x4 ∧ bt5 g 5 = x5 ∧ bt5 g 6 = x6 ∧ bt5 g 7 = x7 ∧ bt5 g 8 = x8 ∧ bt5 g 9 = x9 := by
  subst hg
  refine ⟨by omega, ?_, ?_, ?_, ?_, ?_, ?_, ?_, ?_, ?_, ?_⟩
  · show _ / 1 % 2 = _; omega
  · show _ / 2 % 2 = _; omega
  · show _ / 4 % 2 = _; omega
  · show _ / 8 % 2 = _; omega
  · show _ / 16 % 2 = _; omega
  · show _ / 32 % 2 = _; omega
  · show _ / 64 % 2 = _; omega
  · show _ / 128 % 2 = _; omega
  · show _ / 256 % 2 = _; omega
  · show _ / 512 % 2 = _; omega
theorem x_bits : ∀ x, x < 32 → bt5 x 0 + bt5 x 1 * 2 + bt5 x 2 * 4 + bt5 x 3 * 8 + bt5 x 4 * 16 = x := by decide +kernel
theorem nbS_g {fi se : Nat → Nat} {nb : Nat} (h : ∀ i, i < nb → fi i < 5 ∧ se i < 5 ∧ fi i ≠ se i) : gcode (nbS fi se nb) < 1024 ∧ nbS fi se nb = nbg (gcode (nbS fi se nb)) := by
  obtain ⟨c, b0, b1, b2, b3, b4, b5, b6, b7, b8, b9⟩ := cd_bits (bt5_le (nbS fi se nb 0) 1) (bt5_le (nbS fi se nb 0) 2) (bt5_le (nbS fi se nb 0) 3) (bt5_le (nbS fi se nb 0) 4) (bt5_le (nbS fi se nb 1) 2) (bt5_le (nbS fi se nb 1) 3) (bt5_le (nbS fi se nb 1) 4) (bt5_le (nbS fi se nb 2) 3) (bt5_le (nbS fi se nb 2) 4) (bt5_le (nbS fi se nb 3) 4) (g := gcode (nbS fi se nb)) rfl
  refine ⟨c, funext (fun n => ?_)⟩
  have s : ∀ a b, a < 5 → b < 5 → bt5 (nbS fi se nb a) b = bt5 (nbS fi se nb b) a := fun a b ha hb => nbS_sy h ha hb
  have d : ∀ a, a < 5 → bt5 (nbS fi se nb a) a = 0 := fun a ha => nb_self h ha
  have w : ∀ a, _ := fun a => x_bits (nbS fi se nb a) (nbS_32 h a)
  match n with
  | 0 =>
    have w0 := w 0
    rw [d 0 (by decide)] at w0
    show _ = bt5 _ 0 * 2 + bt5 _ 1 * 4 + bt5 _ 2 * 8 + bt5 _ 3 * 16
    rw [b0, b1, b2, b3]
    omega
  | 1 =>
    have w0 := w 1
    rw [d 1 (by decide), s 1 0 (by decide) (by decide)] at w0
    show _ = bt5 _ 0 + bt5 _ 4 * 4 + bt5 _ 5 * 8 + bt5 _ 6 * 16
    rw [b0, b4, b5, b6]
    omega
  | 2 =>
    have w0 := w 2
    rw [d 2 (by decide), s 2 0 (by decide) (by decide), s 2 1 (by decide) (by decide)] at w0
    show _ = bt5 _ 1 + bt5 _ 4 * 2 + bt5 _ 7 * 8 + bt5 _ 8 * 16
    rw [b1, b4, b7, b8]
    omega
  | 3 =>
    have w0 := w 3
    rw [d 3 (by decide), s 3 0 (by decide) (by decide), s 3 1 (by decide) (by decide), s 3 2 (by decide) (by decide)] at w0
    show _ = bt5 _ 2 + bt5 _ 5 * 2 + bt5 _ 7 * 4 + bt5 _ 9 * 16
    rw [b2, b5, b7, b9]
    omega
  | 4 =>
    have w0 := w 4
    rw [d 4 (by decide), s 4 0 (by decide) (by decide), s 4 1 (by decide) (by decide), s 4 2 (by decide) (by decide), s 4 3 (by decide) (by decide)] at w0
    show _ = bt5 _ 3 + bt5 _ 6 * 2 + bt5 _ 8 * 4 + bt5 _ 9 * 8
    rw [b3, b6, b8, b9]
    omega
  | k + 5 => exact nbS_lt nb h (k + 5) (by omega)
theorem nat_beq {a b : Nat} (h : Nat.beq a b = true) : a = b := Nat.eq_of_beq_eq_true h
theorem ord_in {fi se : Nat → Nat} {nb mk : Nat} (h : ∀ i, i < nb → fi i < 5 ∧ se i < 5 ∧ fi i ≠ se i) (hg : ∀ i, i < nb → bt5 mk (fi i) = 1 ∧ bt5 mk (se i) = 1) (hk : mk < 32) : ∃ s t : oS, rrun (nbS fi se nb) mk 20 0 o0 = some s ∧ prun (nbS fi se nb) mk (pcb mk) 0 o0 = some t ∧ s.1 = pcb mk ∧ t.1 = pcb mk ∧ (∀ i, i < pcb mk → t.2.1 i = s.2.1 i ∧ s.2.1 i < 5 ∧ ∀ j, j < i → s.2.1 i ≠ s.2.1 j) ∧ ∀ n, n < 5 → bt5 mk n = 1 → ∃ i, i < pcb mk ∧ s.2.1 i = n := by
  obtain ⟨g1, g2⟩ := nbS_g h
  have eg : gcode (nbS fi se nb) = gsum (fun i => bt5 (nbS fi se nb (eAB i).1) (eAB i).2) 10 := by
    unfold gcode
    show _ = ((((((((((0 + bt5 (nbS fi se nb 0) 1 * 1) + bt5 (nbS fi se nb 0) 2 * 2) + bt5 (nbS fi se nb 0) 3 * 4) + bt5 (nbS fi se nb 0) 4 * 8) + bt5 (nbS fi se nb 1) 2 * 16) + bt5 (nbS fi se nb 1) 3 * 32) + bt5 (nbS fi se nb 1) 4 * 64) + bt5 (nbS fi se nb 2) 3 * 128) + bt5 (nbS fi se nb 2) 4 * 256) + bt5 (nbS fi se nb 3) 4 * 512)
    omega
  have e5 : ∀ i, (eAB i).1 < 5 ∧ (eAB i).2 < 5 := fun i => by
    match i with
    | 0 => decide
    | 1 => decide
    | 2 => decide
    | 3 => decide
    | 4 => decide
    | 5 => decide
    | 6 => decide
    | 7 => decide
    | 8 => decide
    | k + 9 => exact ⟨by show 3 < 5; decide, by show 4 < 5; decide⟩
  have hmem : gcode (nbS fi se nb) ∈ gl mk 10 := by
    rw [eg]
    refine gl_mem (fun i => bt5_le _ _) (fun i hi hbit => ?_) 10 (Nat.le_refl _)
    rcases (nb_bit (e5 i).1 (e5 i).2 nb h).2 with ⟨_, k, hk9, hj⟩ | ⟨r1, _⟩
    · rcases hj with ⟨c1, c2⟩ | ⟨c1, c2⟩
      · rw [← c1, ← c2]; exact hg k hk9
      · rw [← c1, ← c2]; exact ⟨(hg k hk9).2, (hg k hk9).1⟩
    · have h9 : bt5 (nbS fi se nb (eAB i).1) (eAB i).2 = 1 := hbit
      rw [r1] at h9
      cases h9
  have hall := List.all_eq_true.mp (bf_all mk hk) (gcode (nbS fi se nb)) hmem
  have hall2 : (match rrunE (nbg (gcode (nbS fi se nb))) mk 20 0 o0, prun (nbg (gcode (nbS fi se nb))) mk (pcb mk) 0 o0 with
  | some s, some t => bfS mk s t
  | _, _ => false) = true := hall
  rw [← g2, rrE_eq (nbS_32 h) hk 20 0 o0 (by decide)] at hall2
  generalize rrun (nbS fi se nb) mk 20 0 o0 = x at hall2 ⊢
  generalize prun (nbS fi se nb) mk (pcb mk) 0 o0 = y at hall2 ⊢
  match x, y, hall2 with
  | some s, some t, hs =>
    have hs2 : bfS mk s t = true := hs
    unfold bfS at hs2
    simp only [Bool.and_eq_true] at hs2
    obtain ⟨⟨⟨c1, c2⟩, c3⟩, c4⟩ := hs2
    refine ⟨s, t, rfl, rfl, nat_beq c1, nat_beq c2, fun i hi => ?_, fun n hn hb => ?_⟩
    · have d := List.all_eq_true.mp c3 i (List.mem_range.mpr hi)
      simp only [Bool.and_eq_true] at d
      obtain ⟨⟨d1, d2⟩, d3⟩ := d
      refine ⟨nat_beq d1, Nat.lt_succ_of_le (Nat.le_of_ble_eq_true d2), fun j hj e => ?_⟩
      have d4 := List.all_eq_true.mp d3 j (List.mem_range.mpr hj)
      rw [e] at d4
      simp at d4
    · have d := List.all_eq_true.mp c4 n (List.mem_range.mpr hn)
      rw [hb] at d
      have d2 : (List.range (pcb mk)).any (fun i => Nat.beq (s.2.1 i) n) = true := d
      obtain ⟨i, i1, i2⟩ := List.any_eq_true.mp d2
      exact ⟨i, List.mem_range.mp i1, nat_beq i2⟩
  | some s, none, hs => cases hs
  | none, some t, hs => cases hs
  | none, none, hs => cases hs
