/-! The invariant: what both stores tell of what is built -/
theorem bd1_s {a c : Type} (x : a) (f : a → Option c) : bd1 (some x) f = f x := rfl
theorem bd2_s {a b c : Type} (x : a) (y : b) (f : a → b → Option c) : bd2 (some (x, y)) f = f x y := rfl
theorem bd3_s {t0 t1 t2 c : Type} (x0 : t0) (x1 : t1) (x2 : t2) (f : t0 → t1 → t2 → Option c) : bd3 (some (x0, x1, x2)) f = f x0 x1 x2 := rfl
theorem bd4_s {t0 t1 t2 t3 c : Type} (x0 : t0) (x1 : t1) (x2 : t2) (x3 : t3) (f : t0 → t1 → t2 → t3 → Option c) : bd4 (some (x0, x1, x2, x3)) f = f x0 x1 x2 x3 := rfl
theorem bd5_s {t0 t1 t2 t3 t4 c : Type} (x0 : t0) (x1 : t1) (x2 : t2) (x3 : t3) (x4 : t4) (f : t0 → t1 → t2 → t3 → t4 → Option c) : bd5 (some (x0, x1, x2, x3, x4)) f = f x0 x1 x2 x3 x4 := rfl
theorem bd6_s {t0 t1 t2 t3 t4 t5 c : Type} (x0 : t0) (x1 : t1) (x2 : t2) (x3 : t3) (x4 : t4) (x5 : t5) (f : t0 → t1 → t2 → t3 → t4 → t5 → Option c) : bd6 (some (x0, x1, x2, x3, x4, x5)) f = f x0 x1 x2 x3 x4 x5 := rfl
theorem let_s {a c : Type} (x : a) (f : a → Option c) : (some x).bind f = f x := rfl
/-- an int of small size -/
def iI (x : Int) : Int32 := Int32.ofInt x
theorem iI_toInt {x : Int} (h1 : -2147483648 ≤ x) (h2 : x < 2147483648) : (iI x).toInt = x := Int32.toInt_ofInt_of_le h1 (by omega)
theorem iI_of (x : Int32) : x = iI x.toInt := (Int32.ofInt_toInt x).symm
/-- numbers of nodes, of directions .. out of a test -/
theorem ix_of {x : Int32} {M : Int32} (n : Nat) (hM : M = nI n) (hn : n < 2 ^ 31) (h0 : ¬ x < 0) (h1 : ¬ M ≤ x) : ∃ j : Nat, j < n ∧ x = nI j := by
  obtain ⟨j, hj, rfl⟩ := nI_of h0
  refine ⟨j, ?_, rfl⟩
  rw [hM] at h1
  rcases Nat.lt_or_ge j n with q | q
  · exact q
  · exact absurd (nI_le q hj) h1
theorem ck_in {j n : Nat} (h : j < n) (hn : n < 2 ^ 31) : ¬ (nI j < 0 ∨ n ≤ (nI j).toNatClampNeg) := vp_in_nI h hn
def b_sc (v1 v2 : Nat → Int32) (mk nb : Nat) : Prop := mk < 32 ∧ nb ≤ 10 ∧ v1 1 = nI mk ∧ v1 2 = nI nb ∧ v2 0 = nI nb
def b_th (t : Nat → Int32) (mk : Nat) : Prop := ∀ n, n < 5 → t n = nI (mk / 2 ^ n % 2)
def b_pt (p x y : Nat → Int32) (pt : Nat → Nat) : Prop := ∀ n, n < 5 → p (2 * n) = nI (pt (2 * n)) ∧ p (2 * n + 1) = nI (pt (2 * n + 1)) ∧ x n = nI (pt (2 * n)) ∧ y n = nI (pt (2 * n + 1)) ∧ pt (2 * n) < 5 ∧ pt (2 * n + 1) < 5
def b_ba (f1 s1 k1 f2 s2 k2 : Nat → Int32) (nb : Nat) (fi se st : Nat → Nat) : Prop := ∀ i, i < nb → f1 i = nI (fi i) ∧ s1 i = nI (se i) ∧ k1 i = nI (st i) ∧ f2 i = nI (fi i) ∧ s2 i = nI (se i) ∧ k2 i = nI (st i) ∧ fi i < 5 ∧ se i < 5 ∧ fi i ≠ se i ∧ 1 ≤ st i ∧ st i ≤ 3
def b_hd (h1 h2 : Nat → Int32) (hd : Nat → Nat) : Prop := ∀ d, d < 10 → h1 d = nI (hd d) ∧ h2 d = nI (hd d) ∧ hd d ≤ 1
def b_ha (a1 a2 : Nat → Int32) (ha : Nat → Int) : Prop := ∀ d, d < 10 → a1 d = iI (ha d) ∧ a2 d = iI (ha d) ∧ -9 ≤ ha d ∧ ha d ≤ 9
def b_sp (a1 a2 : Nat → Int32) (sp : Nat → Nat) : Prop := ∀ d, d < 10 → a1 d = nI (sp d) ∧ a2 d = nI (sp d) ∧ sp d ≤ 3
def b_ld (I1 : Nat → Nat → Int32) (a2 : Nat → Int32) (ld : Nat → Nat → Int) : Prop := ∀ c, c < 4 → ∀ d, d < 10 → I1 (c + 28) d = iI (ld c d) ∧ a2 (10 * c + d) = iI (ld c d) ∧ -99 ≤ ld c d ∧ ld c d ≤ 99
def iv_b (z1 z2 : gS) (mk nb : Nat) (pt fi se st hd sp : Nat → Nat) (ha : Nat → Int) (ld : Nat → Nat → Int) : Prop := b_sc z1.1 z2.1 mk nb ∧ b_th (z2.2.2.1 1) mk ∧ b_pt (z1.2.2.1 5) (z2.2.2.1 2) (z2.2.2.1 3) pt ∧ b_ba (z1.2.2.1 6) (z1.2.2.1 7) (z1.2.2.1 8) (z2.2.2.1 4) (z2.2.2.1 5) (z2.2.2.1 6) nb fi se st ∧ b_hd (z1.2.2.1 9) (z2.2.2.1 7) hd ∧ b_ha (z1.2.2.1 10) (z2.2.2.1 8) ha ∧ b_sp (z1.2.2.1 11) (z2.2.2.1 9) sp ∧ b_ld z1.2.2.1 (z2.2.2.1 10) ld
/-- what the sealed object keeps, as a word still to be said -/
abbrev skT : Type := gS → Nat → Nat → (Nat → Nat) → (Nat → Nat) → (Nat → Nat) → (Nat → Nat) → (Nat → Nat) → (Nat → Nat) → Prop
def iv (SK : skT) (z1 z2 : gS) : Prop := ∃ (mk nb : Nat) (pt fi se st hd sp : Nat → Nat) (ha : Nat → Int) (ld : Nat → Nat → Int), iv_b z1 z2 mk nb pt fi se st hd sp ha ld ∧ ((z1.1 0 = 0 ∧ z2.1 1 = 0) ∨ (z1.1 0 = 1 ∧ z2.1 1 = 1 ∧ SK z1 mk nb pt fi se st hd sp))
theorem ok_open {SK : skT} {z1 z2 : gS} (h : iv SK z1 z2) : ∃ r w1 w2, f_S_open z1 = some (r, w1) ∧ f_M_open z2 = some (r, w2) ∧ iv SK w1 w2 := by
  obtain ⟨mk, nb, pt, fi, se, st, hd, sp, ha, ld, hb, hs⟩ := h
  rcases hs with ⟨s1, s2⟩ | ⟨s1, s2, s3⟩
  · refine ⟨-1, z1, z2, ?_, ?_, mk, nb, pt, fi, se, st, hd, sp, ha, ld, hb, Or.inl ⟨s1, s2⟩⟩
    · unfold f_S_open; rw [if_pos s1]
    · unfold f_M_open; rw [if_pos s2]
  · refine ⟨0, s_i z1 0 0, s_i z2 1 0, ?_, ?_, mk, nb, pt, fi, se, st, hd, sp, ha, ld, hb, Or.inl ⟨rfl, rfl⟩⟩
    · unfold f_S_open; rw [if_neg (by rw [s1]; decide)]; rfl
    · unfold f_M_open; rw [if_neg (by rw [s2]; decide)]; rfl
