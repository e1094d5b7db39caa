/-! The stiffness, as the reference has it -/
def rx (z : gS) (nb : Nat) (pt fi se st : Nat → Nat) : Prop := nb ≤ 10 ∧ z.1 0 = nI nb ∧ (∀ n, n < 5 → z.2.2.1 2 n = nI (pt (n * 2)) ∧ z.2.2.1 3 n = nI (pt (n * 2 + 1)) ∧ pt (n * 2) < 5 ∧ pt (n * 2 + 1) < 5) ∧ ∀ i, i < nb → z.2.2.1 4 i = nI (fi i) ∧ z.2.2.1 5 i = nI (se i) ∧ z.2.2.1 6 i = nI (st i) ∧ fi i < 5 ∧ se i < 5 ∧ fi i ≠ se i ∧ 1 ≤ st i ∧ st i ≤ 3
theorem rx_keep {a b c d : List Nat} {z y : gS} {nb : Nat} {pt fi se st : Nat → Nat} (h : rx y nb pt fi se st) (hf : fr a b c d z y) (ha : 0 ∉ a) (h2 : 2 ∉ c) (h3 : 3 ∉ c) (h4 : 4 ∉ c) (h5 : 5 ∉ c) (h6 : 6 ∉ c) : rx z nb pt fi se st := ⟨h.1, by rw [hf.1 0 ha]; exact h.2.1, fun n hn => by rw [hf.2.2.1 2 h2, hf.2.2.1 3 h3]; exact h.2.2.1 n hn, fun i hi => by rw [hf.2.2.1 4 h4, hf.2.2.1 5 h5, hf.2.2.1 6 h6]; exact h.2.2.2 i hi⟩
theorem f_msg (z : gS) {x : Int} (h1 : -1000 ≤ x) (h2 : x ≤ 1000) : f_M_sign z (iI x) = some (iI (sgI x), z) := by
  unfold f_M_sign sgI
  by_cases q : x = 0
  · rw [if_pos ((iI_0le (by omega) (by omega)).mpr (by omega)), if_pos ((iI_le0 (by omega) (by omega)).mpr (by omega)), if_pos q]; rfl
  · rw [if_neg q]
    by_cases q2 : x ≤ 0
    · rw [if_neg (fun e => absurd ((iI_0le (by omega) (by omega)).mp e) (by omega)), if_pos q2]; rfl
    · rw [if_pos ((iI_0le (by omega) (by omega)).mpr (by omega)), if_neg (fun e => q2 ((iI_le0 (by omega) (by omega)).mp e)), if_neg q2]; rfl
theorem f_way {z : gS} {nb : Nat} {pt fi se st : Nat → Nat} (h : rx z nb pt fi se st) {i d : Nat} (hi : i < nb) (hd : d < 2) : f_M_way z (nI i) (nI d) = some (iI (wyI pt fi se i d), z) := by
  obtain ⟨e4, e5, e6, l1, l2, l3, l4, l5⟩ := h.2.2.2 i hi
  have hnb := h.1
  have ck := ck_in (show i < 10 by omega) (by decide)
  have c1 := ck_in l1 (by decide)
  have c2 := ck_in l2 (by decide)
  obtain ⟨a1, a2, a3, a4⟩ := h.2.2.1 (fi i) l1
  obtain ⟨b1, b2, b3, b4⟩ := h.2.2.1 (se i) l2
  unfold f_M_way
  simp only [if_neg ck, let_s]
  simp only [nI_clamp (show i < 2 ^ 31 by omega), e4, e5]
  simp only [if_neg c1, if_neg c2]
  simp only [nI_clamp (show fi i < 2 ^ 31 by omega), nI_clamp (show se i < 2 ^ 31 by omega), a1, a2, b1, b2]
  simp only [nI_iI (pt _), iI_sub]
  match d, hd with
  | 0, _ =>
    rw [if_pos (show nI 0 = 0 from rfl), f_msg z (by omega) (by omega), bd2_s]
    rfl
  | 1, _ =>
    rw [if_neg (show ¬ nI 1 = 0 by decide), f_msg z (by omega) (by omega), bd2_s]
    rfl
/-! one bar: sixteen places of the matrix -/
def mmE (fi se : Nat → Nat) (i e : Nat) : Nat := if e = 0 then fi i else se i
def mmR (fi se : Nat → Nat) (i t : Nat) : Nat := mmE fi se i (t / 8) * 2 + t % 2
def mmC (fi se : Nat → Nat) (i t : Nat) : Nat := mmE fi se i (t / 4 % 2) * 2 + t / 2 % 2
def mmV (pt fi se st : Nat → Nat) (i t : Nat) : Int := (if t / 8 = t / 4 % 2 then (1 : Int) else -1) * ((st i : Int) * wyI pt fi se i (t % 2) * wyI pt fi se i (t / 2 % 2))
def mmF (pt fi se st : Nat → Nat) (i : Nat) (F : Nat → Int) : Nat → Nat → Int
  | 0, k => F k
  | t + 1, k => mmF pt fi se st i F t k + if k = mmR fi se i t * 10 + mmC fi se i t then mmV pt fi se st i t else 0
theorem mmE_lt {fi se : Nat → Nat} {i : Nat} (h1 : fi i < 5) (h2 : se i < 5) (e : Nat) : mmE fi se i e < 5 := by
  unfold mmE
  by_cases q : e = 0
  · rw [if_pos q]; exact h1
  · rw [if_neg q]; exact h2
theorem sl10 (a d : Nat) : nI a * (10 : Int32) + nI d = nI (a * 10 + d) := by
  rw [show (10 : Int32) = nI 10 from rfl, pk_mul, nI_add]
theorem mm_st {z : gS} {nb : Nat} {pt fi se st : Nat → Nat} (h : rx z nb pt fi se st) {i t : Nat} (hi : i < nb) (ht : t < 16) (f : Nat) : l_M_makeMatrix_56 (f + 1) z (nI i) (nI t) = l_M_makeMatrix_56 f (s_I z 13 (upd (z.2.2.1 13) (mmR fi se i t * 10 + mmC fi se i t) (z.2.2.1 13 (mmR fi se i t * 10 + mmC fi se i t) + iI (mmV pt fi se st i t)))) (nI i) (nI (t + 1)) := by
  obtain ⟨e4, e5, e6, l1, l2, l3, l4, l5⟩ := h.2.2.2 i hi
  have hnb := h.1
  have ck := ck_in (show i < 10 by omega) (by decide)
  have dd : ∀ k, k < 2 ^ 31 → nI k / (2 : Int32) = nI (k / 2) := fun k hk => pk_div (d := 2) hk (by decide) (by decide)
  have rr : ∀ k, k < 2 ^ 31 → nI k - nI (k / 2) * (2 : Int32) = nI (k % 2) := fun k hk => by rw [← dd k hk]; exact pk_rem (d := 2) hk (by decide) (by decide)
  have d4 : nI t / (4 : Int32) = nI (t / 4) := pk_div (d := 4) (by omega) (by decide) (by decide)
  have d8 : nI t / (8 : Int32) = nI (t / 8) := pk_div (d := 8) (by omega) (by decide) (by decide)
  have w1 := f_way h hi (show t % 2 < 2 by omega)
  have w2 := f_way h hi (show t / 2 % 2 < 2 by omega)
  have hR := mmE_lt (fi := fi) (se := se) l1 l2 (t / 8)
  have hC := mmE_lt (fi := fi) (se := se) l1 l2 (t / 4 % 2)
  have hlt : mmR fi se i t * 10 + mmC fi se i t < 100 := by unfold mmR mmC; omega
  have ckx := ck_in hlt (by decide)
  have leaf : (if nI (mmR fi se i t * 10 + mmC fi se i t) < 0 ∨ 100 ≤ (nI (mmR fi se i t * 10 + mmC fi se i t)).toNatClampNeg then none else
      if nI (t / 8) = nI (t / 4 % 2) then (if nI (mmR fi se i t * 10 + mmC fi se i t) < 0 ∨ 100 ≤ (nI (mmR fi se i t * 10 + mmC fi se i t)).toNatClampNeg then none else
        l_M_makeMatrix_56 f (s_I z 13 (upd (z.2.2.1 13) (nI (mmR fi se i t * 10 + mmC fi se i t)).toNatClampNeg (z.2.2.1 13 (nI (mmR fi se i t * 10 + mmC fi se i t)).toNatClampNeg + iI ((st i : Int) * wyI pt fi se i (t % 2) * wyI pt fi se i (t / 2 % 2))))) (nI i) (nI (t + 1)))
      else (if nI (mmR fi se i t * 10 + mmC fi se i t) < 0 ∨ 100 ≤ (nI (mmR fi se i t * 10 + mmC fi se i t)).toNatClampNeg then none else
        l_M_makeMatrix_56 f (s_I z 13 (upd (z.2.2.1 13) (nI (mmR fi se i t * 10 + mmC fi se i t)).toNatClampNeg (z.2.2.1 13 (nI (mmR fi se i t * 10 + mmC fi se i t)).toNatClampNeg + iI (-((st i : Int) * wyI pt fi se i (t % 2) * wyI pt fi se i (t / 2 % 2)))))) (nI i) (nI (t + 1))))
      = l_M_makeMatrix_56 f (s_I z 13 (upd (z.2.2.1 13) (mmR fi se i t * 10 + mmC fi se i t) (z.2.2.1 13 (mmR fi se i t * 10 + mmC fi se i t) + iI (mmV pt fi se st i t)))) (nI i) (nI (t + 1)) := by
    simp only [if_neg ckx]
    simp only [nI_clamp (show mmR fi se i t * 10 + mmC fi se i t < 2 ^ 31 by omega)]
    unfold mmV
    by_cases q : t / 8 = t / 4 % 2
    · rw [if_pos (by rw [q]), if_pos q, Int.one_mul]
    · rw [if_neg (fun e => q ((nI_eq (by omega) (by omega)).mp e)), if_neg q, Int.neg_mul, Int.one_mul]
  rw [l_M_makeMatrix_56, if_neg (show ¬ (16 : Int32) ≤ nI t from nI_ge (b := 16) ht (by decide))]
  simp only [if_neg ck, let_s, dd t (by omega), d4, d8, dd (t / 2) (by omega), dd (t / 4) (by omega), rr t (by omega), rr (t / 2) (by omega), rr (t / 4) (by omega), w1, w2, bd2_s, nI_1]
  simp only [nI_clamp (show i < 2 ^ 31 by omega), e4, e5, e6, sl_of, sl10, nI_iI (st i), iI_mul, iI_neg]
  by_cases q8 : 8 ≤ t
  · rw [if_pos (show (8 : Int32) ≤ nI t from nI_le (a := 8) q8 (by omega))]
    have eR : mmR fi se i t = se i * 2 + t % 2 := by unfold mmR mmE; rw [if_neg (by omega)]
    by_cases q4 : t / 4 % 2 = 0
    · have eC : mmC fi se i t = fi i * 2 + t / 2 % 2 := by unfold mmC mmE; rw [if_pos q4]
      rw [if_pos (by rw [q4]; rfl), ← eR, ← eC]
      exact leaf
    · have eC : mmC fi se i t = se i * 2 + t / 2 % 2 := by unfold mmC mmE; rw [if_neg q4]
      rw [if_neg (nI_ne0 (by omega) (by omega)), ← eR, ← eC]
      exact leaf
  · rw [if_neg (show ¬ (8 : Int32) ≤ nI t from nI_ge (b := 8) (by omega) (by decide))]
    have eR : mmR fi se i t = fi i * 2 + t % 2 := by unfold mmR mmE; rw [if_pos (by omega)]
    by_cases q4 : t / 4 % 2 = 0
    · have eC : mmC fi se i t = fi i * 2 + t / 2 % 2 := by unfold mmC mmE; rw [if_pos q4]
      rw [if_pos (by rw [q4]; rfl), ← eR, ← eC]
      exact leaf
    · have eC : mmC fi se i t = se i * 2 + t / 2 % 2 := by unfold mmC mmE; rw [if_neg q4]
      rw [if_neg (nI_ne0 (by omega) (by omega)), ← eR, ← eC]
      exact leaf
theorem lp_mm1 {nb : Nat} {pt fi se st : Nat → Nat} {i : Nat} (hi : i < nb) {F : Nat → Int} : ∀ (g f t : Nat) (z : gS), t + g = 16 → g < f → rx z nb pt fi se st → (∀ k, k < 100 → z.2.2.1 13 k = iI (mmF pt fi se st i F t k)) → ∃ z', l_M_makeMatrix_56 f z (nI i) (nI t) = some (nI i, z') ∧ fr [] [] [13] [] z' z ∧ ∀ k, k < 100 → z'.2.2.1 13 k = iI (mmF pt fi se st i F 16 k)
  | 0, f + 1, t, z, hg, hf, hx, hz => by
    have : t = 16 := by omega
    subst this
    rw [l_M_makeMatrix_56, if_pos (by decide)]
    exact ⟨z, rfl, fr_rf _ _ _ _ z, hz⟩
  | g + 1, f + 1, t, z, hg, hf, hx, hz => by
    obtain ⟨e4, e5, e6, l1, l2, l3, l4, l5⟩ := hx.2.2.2 i hi
    have hR := mmE_lt (fi := fi) (se := se) l1 l2 (t / 8)
    have hC := mmE_lt (fi := fi) (se := se) l1 l2 (t / 4 % 2)
    have hlt : mmR fi se i t * 10 + mmC fi se i t < 100 := by unfold mmR mmC; omega
    rw [mm_st hx hi (by omega) f, hz _ hlt, iI_add]
    have hf1 : fr [] [] [13] [] (s_I z 13 (upd (z.2.2.1 13) (mmR fi se i t * 10 + mmC fi se i t) (iI (mmF pt fi se st i F t (mmR fi se i t * 10 + mmC fi se i t) + mmV pt fi se st i t)))) z := fr_I _ _ (by decide)
    obtain ⟨z', b1, b2, b3⟩ := lp_mm1 hi g f (t + 1) _ (by omega) (by omega) (rx_keep hx hf1 (by decide) (by decide) (by decide) (by decide) (by decide) (by decide)) (fun k hk => by
      rw [sI_self]
      show _ = iI (mmF pt fi se st i F t k + if k = mmR fi se i t * 10 + mmC fi se i t then mmV pt fi se st i t else 0)
      by_cases e : k = mmR fi se i t * 10 + mmC fi se i t
      · rw [e, pk_us, if_pos rfl]
      · rw [pk_un e, if_neg e, Int.add_zero]
        exact hz k hk)
    exact ⟨z', b1, fr_tr b2 hf1, b3⟩
theorem sb_x (pt fi se : Nat → Nat) {i : Nat} (h : fi i ≠ se i) (r : Nat) : sbI pt fi se i r = ((if r = se i * 2 + 0 then (1 : Int) else 0) - (if r = fi i * 2 + 0 then (1 : Int) else 0)) * wyI pt fi se i 0 + ((if r = se i * 2 + 1 then (1 : Int) else 0) - (if r = fi i * 2 + 1 then (1 : Int) else 0)) * wyI pt fi se i 1 := by
  unfold sbI
  have hr : r % 2 = 0 ∨ r % 2 = 1 := by omega
  by_cases q1 : r / 2 = se i
  · rw [if_pos q1]
    rcases hr with e | e
    · rw [e, if_pos (show r = se i * 2 + 0 by omega), if_neg (show ¬ r = fi i * 2 + 0 by omega), if_neg (show ¬ r = se i * 2 + 1 by omega), if_neg (show ¬ r = fi i * 2 + 1 by omega)]
      omega
    · rw [e, if_neg (show ¬ r = se i * 2 + 0 by omega), if_neg (show ¬ r = fi i * 2 + 0 by omega), if_pos (show r = se i * 2 + 1 by omega), if_neg (show ¬ r = fi i * 2 + 1 by omega)]
      omega
  · rw [if_neg q1]
    by_cases q2 : r / 2 = fi i
    · rw [if_pos q2]
      rcases hr with e | e
      · rw [e, if_neg (show ¬ r = se i * 2 + 0 by omega), if_pos (show r = fi i * 2 + 0 by omega), if_neg (show ¬ r = se i * 2 + 1 by omega), if_neg (show ¬ r = fi i * 2 + 1 by omega)]
        omega
      · rw [e, if_neg (show ¬ r = se i * 2 + 0 by omega), if_neg (show ¬ r = fi i * 2 + 0 by omega), if_neg (show ¬ r = se i * 2 + 1 by omega), if_pos (show r = fi i * 2 + 1 by omega)]
        omega
    · rw [if_neg q2, if_neg (show ¬ r = se i * 2 + 0 by omega), if_neg (show ¬ r = fi i * 2 + 0 by omega), if_neg (show ¬ r = se i * 2 + 1 by omega), if_neg (show ¬ r = fi i * 2 + 1 by omega)]
      omega
theorem in_x {r c R C : Nat} (hc : c < 10) (hC : C < 10) (v : Int) : (if r * 10 + c = R * 10 + C then v else 0) = (if r = R then (1 : Int) else 0) * (if c = C then (1 : Int) else 0) * v := by
  by_cases q1 : r = R
  · by_cases q2 : c = C
    · rw [if_pos (by omega), if_pos q1, if_pos q2]; omega
    · rw [if_neg (by omega), if_pos q1, if_neg q2]; omega
  · rw [if_neg (by omega), if_neg q1]
    by_cases q2 : c = C
    · rw [if_pos q2]; omega
    · rw [if_neg q2]; omega
theorem mm_id (s w0 w1 a0 a1 b0 b1 c0 c1 d0 d1 F : Int) : F + a0 * c0 * ((1 : Int) * (s * w0 * w0)) + a1 * c0 * ((1 : Int) * (s * w1 * w0)) + a0 * c1 * ((1 : Int) * (s * w0 * w1)) + a1 * c1 * ((1 : Int) * (s * w1 * w1)) + a0 * d0 * ((-1 : Int) * (s * w0 * w0)) + a1 * d0 * ((-1 : Int) * (s * w1 * w0)) + a0 * d1 * ((-1 : Int) * (s * w0 * w1)) + a1 * d1 * ((-1 : Int) * (s * w1 * w1)) + b0 * c0 * ((-1 : Int) * (s * w0 * w0)) + b1 * c0 * ((-1 : Int) * (s * w1 * w0)) + b0 * c1 * ((-1 : Int) * (s * w0 * w1)) + b1 * c1 * ((-1 : Int) * (s * w1 * w1)) + b0 * d0 * ((1 : Int) * (s * w0 * w0)) + b1 * d0 * ((1 : Int) * (s * w1 * w0)) + b0 * d1 * ((1 : Int) * (s * w0 * w1)) + b1 * d1 * ((1 : Int) * (s * w1 * w1)) = F + s * ((b0 - a0) * w0 + (b1 - a1) * w1) * ((d0 - c0) * w0 + (d1 - c1) * w1) := by
  grind
theorem mm_16 {pt fi se st : Nat → Nat} {i : Nat} {F : Nat → Int} (h1 : fi i < 5) (h2 : se i < 5) (h : fi i ≠ se i) {r c : Nat} (hc : c < 10) : mmF pt fi se st i F 16 (r * 10 + c) = F (r * 10 + c) + (st i : Int) * sbI pt fi se i r * sbI pt fi se i c := by
  show F (r * 10 + c) + (if r * 10 + c = (fi i * 2 + 0) * 10 + (fi i * 2 + 0) then (1 : Int) * ((st i : Int) * wyI pt fi se i 0 * wyI pt fi se i 0) else 0) + (if r * 10 + c = (fi i * 2 + 1) * 10 + (fi i * 2 + 0) then (1 : Int) * ((st i : Int) * wyI pt fi se i 1 * wyI pt fi se i 0) else 0) + (if r * 10 + c = (fi i * 2 + 0) * 10 + (fi i * 2 + 1) then (1 : Int) * ((st i : Int) * wyI pt fi se i 0 * wyI pt fi se i 1) else 0) + (if r * 10 + c = (fi i * 2 + 1) * 10 + (fi i * 2 + 1) then (1 : Int) * ((st i : Int) * wyI pt fi se i 1 * wyI pt fi se i 1) else 0) + (if r * 10 + c = (fi i * 2 + 0) * 10 + (se i * 2 + 0) then (-1 : Int) * ((st i : Int) * wyI pt fi se i 0 * wyI pt fi se i 0) else 0) + (if r * 10 + c = (fi i * 2 + 1) * 10 + (se i * 2 + 0) then (-1 : Int) * ((st i : Int) * wyI pt fi se i 1 * wyI pt fi se i 0) else 0) + (if r * 10 + c = (fi i * 2 + 0) * 10 + (se i * 2 + 1) then (-1 : Int) * ((st i : Int) * wyI pt fi se i 0 * wyI pt fi se i 1) else 0) + (if r * 10 + c = (fi i * 2 + 1) * 10 + (se i * 2 + 1) then (-1 : Int) * ((st i : Int) * wyI pt fi se i 1 * wyI pt fi se i 1) else 0) + (if r * 10 + c = (se i * 2 + 0) * 10 + (fi i * 2 + 0) then (-1 : Int) * ((st i : Int) * wyI pt fi se i 0 * wyI pt fi se i 0) else 0) + (if r * 10 + c = (se i * 2 + 1) * 10 + (fi i * 2 + 0) then (-1 : Int) * ((st i : Int) * wyI pt fi se i 1 * wyI pt fi se i 0) else 0) + (if r * 10 + c = (se i * 2 + 0) * 10 + (fi i * 2 + 1) then (-1 : Int) * ((st i : Int) * wyI pt fi se i 0 * wyI pt fi se i 1) else 0) + (if r * 10 + c = (se i * 2 + 1) * 10 + (fi i * 2 + 1) then (-1 : Int) * ((st i : Int) * wyI pt fi se i 1 * wyI pt fi se i 1) else 0) + (if r * 10 + c = (se i * 2 + 0) * 10 + (se i * 2 + 0) then (1 : Int) * ((st i : Int) * wyI pt fi se i 0 * wyI pt fi se i 0) else 0) + (if r * 10 + c = (se i * 2 + 1) * 10 + (se i * 2 + 0) then (1 : Int) * ((st i : Int) * wyI pt fi se i 1 * wyI pt fi se i 0) else 0) + (if r * 10 + c = (se i * 2 + 0) * 10 + (se i * 2 + 1) then (1 : Int) * ((st i : Int) * wyI pt fi se i 0 * wyI pt fi se i 1) else 0) + (if r * 10 + c = (se i * 2 + 1) * 10 + (se i * 2 + 1) then (1 : Int) * ((st i : Int) * wyI pt fi se i 1 * wyI pt fi se i 1) else 0) = _
  rw [sb_x pt fi se h r, sb_x pt fi se h c]
  simp only [in_x hc (show fi i * 2 + 0 < 10 by omega), in_x hc (show fi i * 2 + 1 < 10 by omega), in_x hc (show se i * 2 + 0 < 10 by omega), in_x hc (show se i * 2 + 1 < 10 by omega)]
  exact mm_id _ _ _ _ _ _ _ _ _ _ _ _
theorem lp_mm2 {nb : Nat} {pt fi se st sp : Nat → Nat} : ∀ (g f i : Nat) (z : gS), i + g = nb → g < f → rx z nb pt fi se st → (∀ k, k < 100 → z.2.2.1 13 k = iI (KI pt fi se st sp i (k / 10) (k % 10))) → ∃ z', l_M_makeMatrix_46 f z (nI i) = some z' ∧ fr [] [] [13] [] z' z ∧ ∀ k, k < 100 → z'.2.2.1 13 k = iI (KI pt fi se st sp nb (k / 10) (k % 10))
  | 0, f + 1, i, z, hg, hf, hx, hz => by
    have : i = nb := by omega
    subst this
    have hnb := hx.1
    rw [l_M_makeMatrix_46, hx.2.1, if_pos (nI_le (Nat.le_refl _) (by omega))]
    exact ⟨z, rfl, fr_rf _ _ _ _ z, hz⟩
  | g + 1, f + 1, i, z, hg, hf, hx, hz => by
    have hnb := hx.1
    have hi : i < nb := by omega
    obtain ⟨e4, e5, e6, l1, l2, l3, l4, l5⟩ := hx.2.2.2 i hi
    rw [l_M_makeMatrix_46, hx.2.1, if_neg (nI_ge hi (by omega))]
    obtain ⟨z1, b1, b2, b3⟩ := lp_mm1 (F := fun k => KI pt fi se st sp i (k / 10) (k % 10)) hi 16 200 0 z rfl (by decide) hx hz
    have b1' : l_M_makeMatrix_56 200 z (nI i) 0 = some (nI i, z1) := b1
    rw [b1', bd2_s, nI_1]
    obtain ⟨z', c1, c2, c3⟩ := lp_mm2 g f (i + 1) z1 (by omega) (by omega) (rx_keep hx b2 (by decide) (by decide) (by decide) (by decide) (by decide) (by decide)) (fun k hk => by
      rw [b3 k hk, show k = k / 10 * 10 + k % 10 by omega, mm_16 l1 l2 l3 (Nat.mod_lt k (by decide)), ← show k = k / 10 * 10 + k % 10 by omega]
      rfl)
    exact ⟨z', c1, fr_tr c2 b2, c3⟩
theorem lp_mm0 {sp : Nat → Nat} : ∀ (g f k : Nat) (z : gS), k + g = 100 → g < f → (∀ d, d < 10 → z.2.2.1 9 d = nI (sp d) ∧ sp d ≤ 3) → (∀ j, j < k → z.2.2.1 13 j = iI (if j / 10 = j % 10 then (sp (j / 10) : Int) else 0)) → ∃ z', l_M_makeMatrix_2 f z (nI k) = some z' ∧ fr [] [] [13] [] z' z ∧ ∀ j, j < 100 → z'.2.2.1 13 j = iI (if j / 10 = j % 10 then (sp (j / 10) : Int) else 0)
  | 0, f + 1, k, z, hg, hf, h9, hz => by
    have : k = 100 := by omega
    subst this
    rw [l_M_makeMatrix_2, if_pos (by decide)]
    exact ⟨z, rfl, fr_rf _ _ _ _ z, hz⟩
  | g + 1, f + 1, k, z, hg, hf, h9, hz => by
    have hk : k < 100 := by omega
    have ck := ck_in hk (by decide)
    have ck2 := ck_in (show k / 10 < 10 by omega) (by decide)
    have ed : nI k / (10 : Int32) = nI (k / 10) := pk_div (d := 10) (by omega) (by decide) (by decide)
    have er : nI k - nI (k / 10) * (10 : Int32) = nI (k % 10) := by rw [← ed]; exact pk_rem (d := 10) (by omega) (by decide) (by decide)
    have next : ∀ x : Int32, x = iI (if k / 10 = k % 10 then (sp (k / 10) : Int) else 0) → ∃ z', l_M_makeMatrix_2 f (s_I z 13 (upd (z.2.2.1 13) k x)) (nI (k + 1)) = some z' ∧ fr [] [] [13] [] z' z ∧ ∀ j, j < 100 → z'.2.2.1 13 j = iI (if j / 10 = j % 10 then (sp (j / 10) : Int) else 0) := fun x hx => by
      have hf1 : fr [] [] [13] [] (s_I z 13 (upd (z.2.2.1 13) k x)) z := fr_I _ _ (by decide)
      obtain ⟨z', b1, b2, b3⟩ := lp_mm0 g f (k + 1) (s_I z 13 (upd (z.2.2.1 13) k x)) (by omega) (by omega) (fun d hd => by rw [hf1.2.2.1 9 (by decide)]; exact h9 d hd) (fun j hj => by
        rw [sI_self]
        by_cases e : j = k
        · rw [e, pk_us, hx]
        · rw [pk_un e]; exact hz j (by omega))
      exact ⟨z', b1, fr_tr b2 hf1, b3⟩
    rw [l_M_makeMatrix_2, if_neg (show ¬ (100 : Int32) ≤ nI k from nI_ge (b := 100) hk (by decide))]
    simp only [let_s, if_neg ck, ed, er, nI_1]
    rw [if_neg ck2, nI_clamp (show k < 2 ^ 31 by omega), nI_clamp (show k / 10 < 2 ^ 31 by omega)]
    by_cases q : k / 10 = k % 10
    · rw [if_pos (by rw [q])]
      exact next _ (by rw [if_pos q, (h9 (k / 10) (by omega)).1, nI_iI])
    · rw [if_neg (fun e => q ((nI_eq (by omega) (by omega)).mp e))]
      exact next _ (by rw [if_neg q]; rfl)
theorem f_mm {z : gS} {nb : Nat} {pt fi se st sp : Nat → Nat} (hx : rx z nb pt fi se st) (h9 : ∀ d, d < 10 → z.2.2.1 9 d = nI (sp d) ∧ sp d ≤ 3) : ∃ z', f_M_makeMatrix z = some z' ∧ fr [] [] [13] [] z' z ∧ ∀ k, k < 100 → z'.2.2.1 13 k = iI (KI pt fi se st sp nb (k / 10) (k % 10)) := by
  unfold f_M_makeMatrix
  obtain ⟨z1, a1, a2, a3⟩ := lp_mm0 (sp := sp) 100 200 0 z rfl (by decide) h9 (fun j hj => absurd hj (Nat.not_lt_zero j))
  have a1' : l_M_makeMatrix_2 200 z 0 = some z1 := a1
  rw [a1', bd1_s]
  have hnb := hx.1
  obtain ⟨z2, b1, b2, b3⟩ := lp_mm2 (sp := sp) nb 200 0 z1 (by omega) (by omega) (rx_keep hx a2 (by decide) (by decide) (by decide) (by decide) (by decide) (by decide)) a3
  have b1' : l_M_makeMatrix_46 200 z1 0 = some z2 := b1
  rw [b1', bd1_s]
  exact ⟨z2, rfl, fr_tr b2 a2, b3⟩
