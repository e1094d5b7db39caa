/-! The stiffness, as the program sums it up -/
def sgI (x : Int) : Int := if x = 0 then 0 else if x ≤ 0 then -1 else 1
theorem sg_rng (x : Int) : -1 ≤ sgI x ∧ sgI x ≤ 1 := by
  unfold sgI
  by_cases q : x = 0
  · rw [if_pos q]; omega
  · rw [if_neg q]
    by_cases q2 : x ≤ 0
    · rw [if_pos q2]; omega
    · rw [if_neg q2]; omega
def wyI (pt fi se : Nat → Nat) (i d : Nat) : Int := sgI ((pt (se i * 2 + d) : Int) - (pt (fi i * 2 + d) : Int))
def sbI (pt fi se : Nat → Nat) (i s : Nat) : Int := if s / 2 = se i then wyI pt fi se i (s % 2) else if s / 2 = fi i then - wyI pt fi se i (s % 2) else 0
theorem sb_rng (pt fi se : Nat → Nat) (i s : Nat) : -1 ≤ sbI pt fi se i s ∧ sbI pt fi se i s ≤ 1 := by
  have h := sg_rng ((pt (se i * 2 + s % 2) : Int) - (pt (fi i * 2 + s % 2) : Int))
  unfold sbI wyI
  by_cases q : s / 2 = se i
  · rw [if_pos q]; exact h
  · rw [if_neg q]
    by_cases q2 : s / 2 = fi i
    · rw [if_pos q2]; omega
    · rw [if_neg q2]; omega
theorem pr_rng {v s a : Int} (h1 : -a ≤ v) (h2 : v ≤ a) (h3 : -1 ≤ s) (h4 : s ≤ 1) : -a ≤ v * s ∧ v * s ≤ a := by
  have h : s = -1 ∨ s = 0 ∨ s = 1 := by omega
  rcases h with e | e | e
  · rw [e]; omega
  · rw [e]; omega
  · rw [e]; omega
def KI (pt fi se st sp : Nat → Nat) : Nat → Nat → Nat → Int
  | 0, r, c => if r = c then (sp r : Int) else 0
  | i + 1, r, c => KI pt fi se st sp i r c + (st i : Int) * sbI pt fi se i r * sbI pt fi se i c
def cx (z : gS) (nb : Nat) (pt fi se st : Nat → Nat) : Prop := nb ≤ 10 ∧ z.1 2 = nI nb ∧ (∀ s, s < 10 → z.2.2.1 5 s = nI (pt s) ∧ pt s < 5) ∧ ∀ i, i < nb → z.2.2.1 6 i = nI (fi i) ∧ z.2.2.1 7 i = nI (se i) ∧ z.2.2.1 8 i = nI (st i) ∧ fi i < 5 ∧ se i < 5 ∧ fi i ≠ se i ∧ 1 ≤ st i ∧ st i ≤ 3
theorem cx_keep {a b c d : List Nat} {z y : gS} {nb : Nat} {pt fi se st : Nat → Nat} (h : cx y nb pt fi se st) (hf : fr a b c d z y) (ha : 2 ∉ a) (h5 : 5 ∉ c) (h6 : 6 ∉ c) (h7 : 7 ∉ c) (h8 : 8 ∉ c) : cx z nb pt fi se st := ⟨h.1, by rw [hf.1 2 ha]; exact h.2.1, fun s hs => by rw [hf.2.2.1 5 h5]; exact h.2.2.1 s hs, fun i hi => by rw [hf.2.2.1 6 h6, hf.2.2.1 7 h7, hf.2.2.1 8 h8]; exact h.2.2.2 i hi⟩
theorem f_reach {z : gS} {nb : Nat} {pt fi se st : Nat → Nat} (h : cx z nb pt fi se st) {i d : Nat} (hi : i < nb) (hd : d < 2) : f_T_reach z (nI i) (nI d) = some (iI ((pt (se i * 2 + d) : Int) - (pt (fi i * 2 + d) : Int)), z) := by
  obtain ⟨e6, e7, e8, l1, l2, l3, l4, l5⟩ := h.2.2.2 i hi
  have hnb := h.1
  have ck := ck_in (show i < 10 by omega) (by decide)
  have c1 := ck_in (show se i * 2 + d < 10 by omega) (by decide)
  have c2 := ck_in (show fi i * 2 + d < 10 by omega) (by decide)
  unfold f_T_reach
  simp only [if_neg ck]
  rw [nI_clamp (show i < 2 ^ 31 by omega), e7, f_slot, bd2_s, if_neg c1, e6, f_slot, bd2_s, if_neg c2, nI_clamp (show se i * 2 + d < 2 ^ 31 by omega), nI_clamp (show fi i * 2 + d < 2 ^ 31 by omega), (h.2.2.1 _ (show se i * 2 + d < 10 by omega)).1, (h.2.2.1 _ (show fi i * 2 + d < 10 by omega)).1, nI_iI, nI_iI, iI_sub]
theorem f_sign (z : gS) {x : Int} (h1 : -1000 ≤ x) (h2 : x ≤ 1000) : f_T_signOf z (iI x) = some (iI (sgI x), z) := by
  unfold f_T_signOf sgI
  by_cases q : x = 0
  · rw [if_pos ((iI_z (by omega) (by omega)).mpr q), if_pos q]; rfl
  · rw [if_neg (fun e => q ((iI_z (by omega) (by omega)).mp e)), if_neg q]
    by_cases q2 : x ≤ 0
    · rw [if_pos ((iI_le0 (by omega) (by omega)).mpr q2), if_pos q2]; rfl
    · rw [if_neg (fun e => q2 ((iI_le0 (by omega) (by omega)).mp e)), if_neg q2]; rfl
theorem f_str {z : gS} {nb : Nat} {pt fi se st : Nat → Nat} (h : cx z nb pt fi se st) {i s : Nat} (hi : i < nb) (hs : s < 10) : f_T_stretchBy z (nI i) (nI s) = some (iI (sbI pt fi se i s), z) := by
  obtain ⟨e6, e7, e8, l1, l2, l3, l4, l5⟩ := h.2.2.2 i hi
  have hnb := h.1
  have ck := ck_in (show i < 10 by omega) (by decide)
  have ediv : nI s / (2 : Int32) = nI (s / 2) := pk_div (d := 2) (by omega) (by decide) (by decide)
  have erem : nI s - nI (s / 2) * (2 : Int32) = nI (s % 2) := by rw [← ediv]; exact pk_rem (d := 2) (by omega) (by decide) (by decide)
  have p1 := (h.2.2.1 (se i * 2 + s % 2) (by omega)).2
  have p2 := (h.2.2.1 (fi i * 2 + s % 2) (by omega)).2
  unfold f_T_stretchBy
  simp only [let_s, if_neg ck, ediv, erem]
  rw [f_reach h hi (Nat.mod_lt _ (by decide)), bd2_s, f_sign z (by omega) (by omega), bd2_s]
  rw [nI_clamp (show i < 2 ^ 31 by omega), e7, e6]
  unfold sbI wyI
  simp only [nI_iff (show s / 2 < 5 by omega) l2, nI_iff (show s / 2 < 5 by omega) l1]
  by_cases q1 : s / 2 = se i
  · rw [if_pos q1, if_pos q1]
  · rw [if_neg q1, if_neg q1]
    by_cases q2 : s / 2 = fi i
    · rw [if_pos q2, if_pos q2, iI_neg]
    · rw [if_neg q2, if_neg q2]; rfl
theorem mem1 (k : Nat) : k ∈ [k] := List.mem_singleton_self k
theorem nmem1 {j k : Nat} (h : j ≠ k) : j ∉ [k] := fun m => h (List.mem_singleton.mp m)
theorem lp_ad1 {nb : Nat} {pt fi se st : Nat → Nat} {i r : Nat} (hi : i < nb) (hr : r < 10) {F : Nat → Int} {v : Int} (hv1 : -3 ≤ v) (hv2 : v ≤ 3) : ∀ (g f c : Nat) (z : gS), c + g = 10 → g < f → cx z nb pt fi se st → (∀ k, k < 10 → z.2.2.2 (r + 32) k = jl (if k < c then F k + v * sbI pt fi se i k else F k)) → ∃ z', l_E_addStiffnessOfBar_1_31 f z (nI i) (nI r) (iI v) (nI c) = some (nI i, nI r, z') ∧ fr [] [] [] [r + 32] z' z ∧ ∀ k, k < 10 → z'.2.2.2 (r + 32) k = jl (F k + v * sbI pt fi se i k)
  | 0, f + 1, c, z, hg, hf, hx, hz => by
    have : c = 10 := by omega
    subst this
    rw [l_E_addStiffnessOfBar_1_31, if_pos (by decide)]
    exact ⟨z, rfl, fr_rf _ _ _ _ z, fun k hk => by rw [hz k hk, if_pos hk]⟩
  | g + 1, f + 1, c, z, hg, hf, hx, hz => by
    have hc : c < 10 := by omega
    have ckr := ck_in hr (by decide)
    have ckc := ck_in hc (by decide)
    obtain ⟨s1, s2⟩ := sb_rng pt fi se i c
    obtain ⟨m1, m2⟩ := pr_rng hv1 hv2 s1 s2
    rw [l_E_addStiffnessOfBar_1_31, if_neg (show ¬ (10 : Int32) ≤ nI c from nI_ge (b := 10) hc (by decide))]
    simp only [if_neg ckr, if_neg ckc]
    rw [f_str hx hi hc, bd2_s, let_s, nI_clamp (show r < 2 ^ 31 by omega), nI_clamp (show c < 2 ^ 31 by omega), hz c hc, if_neg (Nat.lt_irrefl c), iI_mul, jl_i (by omega) (by omega), jl_add, nI_1]
    obtain ⟨z', b1, b2, b3⟩ := lp_ad1 hi hr hv1 hv2 g f (c + 1) (s_J z (r + 32) (vp_updL (z.2.2.2 (r + 32)) c (jl (F c + v * sbI pt fi se i c)))) (by omega) (by omega) (cx_keep hx (fr_J (a := []) (b := []) (c := []) z _ (mem1 (r + 32))) (by decide) (by decide) (by decide) (by decide) (by decide)) (fun k hk => by
      rw [sJ_self]
      by_cases e : k = c
      · rw [e, pk_uLs, if_pos (by omega)]
      · rw [pk_uLn e, hz k hk]
        by_cases q : k < c
        · rw [if_pos q, if_pos (by omega)]
        · rw [if_neg q, if_neg (by omega)])
    exact ⟨z', b1, fr_tr b2 (fr_J z _ (mem1 _)), b3⟩
def rw32 : List Nat := [32, 33, 34, 35, 36, 37, 38, 39, 40, 41]
def rw42 : List Nat := [42, 43, 44, 45, 46, 47, 48, 49, 50, 51]
theorem m32 : ∀ r, r < 10 → r + 32 ∈ rw32 := by decide
theorem m42 : ∀ r, r < 10 → r + 42 ∈ rw42 := by decide
theorem fr_1 {r : Nat} {d : List Nat} {x y : gS} (h : fr [] [] [] [r] x y) (hr : r ∈ d) : fr [] [] [] d x y := fr_w h (by decide) (by decide) (by decide) (fun k hk => by rw [List.mem_singleton.mp hk]; exact hr)
theorem lp_ad2 {nb : Nat} {pt fi se st : Nat → Nat} {i : Nat} (hi : i < nb) {F : Nat → Nat → Int} : ∀ (g f r : Nat) (z : gS), r + g = 10 → g < f → cx z nb pt fi se st → (∀ k, k < 10 → ∀ c, c < 10 → z.2.2.2 (k + 32) c = jl (if k < r then F k c + (st i : Int) * sbI pt fi se i k * sbI pt fi se i c else F k c)) → ∃ z', l_E_addStiffnessOfBar_1_2 f z (nI i) (nI r) = some z' ∧ fr [] [] [] rw32 z' z ∧ ∀ k, k < 10 → ∀ c, c < 10 → z'.2.2.2 (k + 32) c = jl (F k c + (st i : Int) * sbI pt fi se i k * sbI pt fi se i c)
  | 0, f + 1, r, z, hg, hf, hx, hz => by
    have : r = 10 := by omega
    subst this
    rw [l_E_addStiffnessOfBar_1_2, if_pos (by decide)]
    exact ⟨z, rfl, fr_rf _ _ _ _ z, fun k hk c hc => by rw [hz k hk c hc, if_pos hk]⟩
  | g + 1, f + 1, r, z, hg, hf, hx, hz => by
    have hr : r < 10 := by omega
    have hnb := hx.1
    have cki := ck_in (show i < 10 by omega) (by decide)
    obtain ⟨e6, e7, e8, l1, l2, l3, l4, l5⟩ := hx.2.2.2 i hi
    obtain ⟨s1, s2⟩ := sb_rng pt fi se i r
    obtain ⟨m1, m2⟩ := pr_rng (v := (st i : Int)) (a := 3) (by omega) (by omega) s1 s2
    rw [l_E_addStiffnessOfBar_1_2, if_neg (show ¬ (10 : Int32) ≤ nI r from nI_ge (b := 10) hr (by decide)), if_neg cki, f_str hx hi hr, bd2_s, let_s, nI_clamp (show i < 2 ^ 31 by omega), e8, nI_iI (st i), iI_mul, nI_1]
    have next : ∀ z1 : gS, fr [] [] [] rw32 z1 z → (∀ k, k < 10 → ∀ c, c < 10 → z1.2.2.2 (k + 32) c = jl (if k < r + 1 then F k c + (st i : Int) * sbI pt fi se i k * sbI pt fi se i c else F k c)) → ∃ z', l_E_addStiffnessOfBar_1_2 f z1 (nI i) (nI (r + 1)) = some z' ∧ fr [] [] [] rw32 z' z ∧ ∀ k, k < 10 → ∀ c, c < 10 → z'.2.2.2 (k + 32) c = jl (F k c + (st i : Int) * sbI pt fi se i k * sbI pt fi se i c) := fun z1 hf1 hz1 => by
      obtain ⟨z', b1, b2, b3⟩ := lp_ad2 hi g f (r + 1) z1 (by omega) (by omega) (cx_keep hx hf1 (by decide) (by decide) (by decide) (by decide) (by decide)) hz1
      exact ⟨z', b1, fr_tr b2 hf1, b3⟩
    by_cases q : (st i : Int) * sbI pt fi se i r = 0
    · rw [if_pos ((iI_z (by omega) (by omega)).mpr q)]
      refine next z (fr_rf _ _ _ _ z) (fun k hk c hc => ?_)
      rw [hz k hk c hc]
      by_cases e : k = r
      · rw [e, if_neg (Nat.lt_irrefl r), if_pos (by omega), q, Int.zero_mul, Int.add_zero]
      · by_cases q2 : k < r
        · rw [if_pos q2, if_pos (by omega)]
        · rw [if_neg q2, if_neg (by omega)]
    · rw [if_neg (fun e => q ((iI_z (by omega) (by omega)).mp e))]
      obtain ⟨z1, b1, b2, b3⟩ := lp_ad1 (F := F r) hi hr m1 m2 10 200 0 z rfl (by decide) hx (fun k hk => by rw [hz r hr k hk, if_neg (Nat.lt_irrefl r), if_neg (by omega)])
      have b1' : l_E_addStiffnessOfBar_1_31 200 z (nI i) (nI r) (iI ((st i : Int) * sbI pt fi se i r)) 0 = some (nI i, nI r, z1) := b1
      rw [b1', bd3_s, nI_1]
      refine next z1 (fr_1 b2 (m32 r hr)) (fun k hk c hc => ?_)
      by_cases e : k = r
      · rw [e, b3 c hc, if_pos (by omega)]
      · rw [b2.2.2.2 (k + 32) (nmem1 (by omega)), hz k hk c hc]
        by_cases q2 : k < r
        · rw [if_pos q2, if_pos (by omega)]
        · rw [if_neg q2, if_neg (by omega)]
theorem lp_ad3 {nb : Nat} {pt fi se st sp : Nat → Nat} : ∀ (g f i : Nat) (z : gS), i + g = nb → g < f → cx z nb pt fi se st → (∀ k, k < 10 → ∀ c, c < 10 → z.2.2.2 (k + 32) c = jl (KI pt fi se st sp i k c)) → ∃ z', l_E_sumUpStiffness_1_41 f z (nI i) = some z' ∧ fr [] [] [] rw32 z' z ∧ ∀ k, k < 10 → ∀ c, c < 10 → z'.2.2.2 (k + 32) c = jl (KI pt fi se st sp nb k c)
  | 0, f + 1, i, z, hg, hf, hx, hz => by
    have : i = nb := by omega
    subst this
    have hnb := hx.1
    rw [l_E_sumUpStiffness_1_41, hx.2.1, if_pos (nI_le (Nat.le_refl _) (by omega))]
    exact ⟨z, rfl, fr_rf _ _ _ _ z, hz⟩
  | g + 1, f + 1, i, z, hg, hf, hx, hz => by
    have hnb := hx.1
    rw [l_E_sumUpStiffness_1_41, hx.2.1, if_neg (nI_ge (show i < nb by omega) (by omega))]
    obtain ⟨z1, b1, b2, b3⟩ := lp_ad2 (F := KI pt fi se st sp i) (show i < nb by omega) 10 200 0 z rfl (by decide) hx (fun k hk c hc => by rw [hz k hk c hc, if_neg (by omega)])
    have b1' : f_E_addStiffnessOfBar_1 z (nI i) = some z1 := by
      unfold f_E_addStiffnessOfBar_1
      have b9 : l_E_addStiffnessOfBar_1_2 200 z (nI i) 0 = some z1 := b1
      rw [b9, bd1_s]
    rw [b1', bd1_s, nI_1]
    obtain ⟨z', c1, c2, c3⟩ := lp_ad3 g f (i + 1) z1 (by omega) (by omega) (cx_keep hx b2 (by decide) (by decide) (by decide) (by decide) (by decide)) (fun k hk c hc => b3 k hk c hc)
    exact ⟨z', c1, fr_tr c2 b2, c3⟩
theorem lp_filL {r : Nat} : ∀ (g f c : Nat) (z : gS), c + g = 10 → g < f → (∀ k, k < c → z.2.2.2 (r + 32) k = jl 0) → ∃ z', l_J_fillL_r32_6 r f z (jl 0) (nI c) (nI 10) = some z' ∧ fr [] [] [] [r + 32] z' z ∧ ∀ k, k < 10 → z'.2.2.2 (r + 32) k = jl 0
  | 0, f + 1, c, z, hg, hf, hz => by
    have : c = 10 := by omega
    subst this
    rw [l_J_fillL_r32_6, if_pos (by decide)]
    exact ⟨z, rfl, fr_rf _ _ _ _ z, hz⟩
  | g + 1, f + 1, c, z, hg, hf, hz => by
    have hc : c < 10 := by omega
    have ckc := ck_in hc (by decide)
    rw [l_J_fillL_r32_6, if_neg (nI_ge hc (by decide)), if_neg ckc, let_s, nI_clamp (show c < 2 ^ 31 by omega), nI_1]
    obtain ⟨z', b1, b2, b3⟩ := lp_filL g f (c + 1) (s_J z (r + 32) (vp_updL (z.2.2.2 (r + 32)) c (jl 0))) (by omega) (by omega) (fun k hk => by
      rw [sJ_self]
      by_cases e : k = c
      · rw [e, pk_uLs]
      · rw [pk_uLn e]; exact hz k (by omega))
    exact ⟨z', b1, fr_tr b2 (fr_J z _ (mem1 _)), b3⟩
theorem f_filL {r : Nat} (z : gS) : ∃ z', f_J_fillL_r32 r z 0 = some z' ∧ fr [] [] [] [r + 32] z' z ∧ ∀ k, k < 10 → z'.2.2.2 (r + 32) k = jl 0 := by
  obtain ⟨z', b1, b2, b3⟩ := lp_filL (r := r) 10 200 0 z rfl (by decide) (fun k hk => absurd hk (Nat.not_lt_zero k))
  have b1' : l_J_fillL_r32_6 r 200 z 0 0 10 = some z' := b1
  unfold f_J_fillL_r32
  rw [b1', bd1_s]
  exact ⟨z', rfl, b2, b3⟩
theorem lp_spr {sp : Nat → Nat} : ∀ (g f r : Nat) (z : gS), r + g = 10 → g < f → (∀ d, d < 10 → z.2.2.1 11 d = nI (sp d) ∧ sp d ≤ 3) → (∀ k, k < r → ∀ c, c < 10 → z.2.2.2 (k + 32) c = jl (if k = c then (sp k : Int) else 0)) → ∃ z', l_E_sumUpStiffness_1_2 f z (nI r) = some z' ∧ fr [] [] [] rw32 z' z ∧ ∀ k, k < 10 → ∀ c, c < 10 → z'.2.2.2 (k + 32) c = jl (if k = c then (sp k : Int) else 0)
  | 0, f + 1, r, z, hg, hf, h11, hz => by
    have : r = 10 := by omega
    subst this
    rw [l_E_sumUpStiffness_1_2, if_pos (by decide)]
    exact ⟨z, rfl, fr_rf _ _ _ _ z, hz⟩
  | g + 1, f + 1, r, z, hg, hf, h11, hz => by
    have hr : r < 10 := by omega
    have ck := ck_in hr (by decide)
    rw [l_E_sumUpStiffness_1_2, if_neg (show ¬ (10 : Int32) ≤ nI r from nI_ge (b := 10) hr (by decide))]
    simp only [if_neg ck]
    rw [nI_clamp (show r < 2 ^ 31 by omega)]
    obtain ⟨z1, a1, a2, a3⟩ := f_filL (r := r) z
    obtain ⟨s1, s2⟩ := h11 r hr
    rw [a1, bd1_s, let_s, a2.2.2.1 11 (by decide), s1, jl_n (by omega), nI_1]
    have hf1 : fr [] [] [] rw32 (s_J z1 (r + 32) (vp_updL (z1.2.2.2 (r + 32)) r (jl (sp r)))) z := fr_tr (fr_J _ _ (m32 r hr)) (fr_1 a2 (m32 r hr))
    obtain ⟨z', b1, b2, b3⟩ := lp_spr g f (r + 1) (s_J z1 (r + 32) (vp_updL (z1.2.2.2 (r + 32)) r (jl (sp r)))) (by omega) (by omega) (fun d hd => by rw [hf1.2.2.1 11 (by decide)]; exact h11 d hd) (fun k hk c hc => by
      by_cases e : k = r
      · rw [e, sJ_self]
        by_cases e2 : c = r
        · rw [e2, pk_uLs, if_pos rfl]
        · rw [pk_uLn e2, a3 c hc, if_neg (fun q => e2 q.symm)]
      · rw [sJ_ne _ _ (by omega), a2.2.2.2 (k + 32) (nmem1 (by omega))]
        exact hz k (by omega) c hc)
    exact ⟨z', b1, fr_tr b2 hf1, b3⟩
theorem f_sum {z : gS} {nb : Nat} {pt fi se st sp : Nat → Nat} (hx : cx z nb pt fi se st) (h11 : ∀ d, d < 10 → z.2.2.1 11 d = nI (sp d) ∧ sp d ≤ 3) : ∃ z', f_E_sumUpStiffness_1 z = some z' ∧ fr [] [] [] rw32 z' z ∧ ∀ k, k < 10 → ∀ c, c < 10 → z'.2.2.2 (k + 32) c = jl (KI pt fi se st sp nb k c) := by
  unfold f_E_sumUpStiffness_1
  obtain ⟨z1, a1, a2, a3⟩ := lp_spr (sp := sp) 10 200 0 z rfl (by decide) h11 (fun k hk => absurd hk (Nat.not_lt_zero k))
  have a1' : l_E_sumUpStiffness_1_2 200 z 0 = some z1 := a1
  rw [a1', bd1_s]
  have hnb := hx.1
  obtain ⟨z2, b1, b2, b3⟩ := lp_ad3 (sp := sp) nb 200 0 z1 (by omega) (by omega) (cx_keep hx a2 (by decide) (by decide) (by decide) (by decide) (by decide)) a3
  have b1' : l_E_sumUpStiffness_1_41 200 z1 0 = some z2 := b1
  rw [b1', bd1_s]
  exact ⟨z2, rfl, fr_tr b2 a2, b3⟩
/-! the matrix of the unknowns -/
theorem lp_em1 {n i : Nat} {us : Nat → Nat} {K : Nat → Nat → Int} (hn : n ≤ 10) (hi : i < n) (hu : ∀ k, k < n → us k < 10) : ∀ (g f j : Nat) (z : gS), j + g = n → g < f → z.1 6 = nI n → (∀ k, k < n → z.2.2.1 15 k = nI (us k)) → (∀ r, r < 10 → ∀ c, c < 10 → z.2.2.2 (r + 32) c = jl (K r c)) → (∀ k, k < j → z.2.2.2 (i + 42) k = jl (K (us i) (us k))) → ∃ z', l_E_make_1_2_26 f z (nI i) (nI j) = some (nI i, z') ∧ fr [] [] [] [i + 42] z' z ∧ ∀ k, k < n → z'.2.2.2 (i + 42) k = jl (K (us i) (us k))
  | 0, f + 1, j, z, hg, hf, h6, h15, hK, hz => by
    have : j = n := by omega
    subst this
    rw [l_E_make_1_2_26, h6, if_pos (nI_le (Nat.le_refl _) (by omega))]
    exact ⟨z, rfl, fr_rf _ _ _ _ z, hz⟩
  | g + 1, f + 1, j, z, hg, hf, h6, h15, hK, hz => by
    have hj : j < n := by omega
    have cki := ck_in (show i < 10 by omega) (by decide)
    have ckj := ck_in (show j < 10 by omega) (by decide)
    have ui := hu i hi
    have uj := hu j hj
    have cku := ck_in ui (by decide)
    have ckv := ck_in uj (by decide)
    rw [l_E_make_1_2_26, h6, if_neg (nI_ge hj (by omega))]
    simp only [if_neg cki, if_neg ckj]
    rw [nI_clamp (show i < 2 ^ 31 by omega), nI_clamp (show j < 2 ^ 31 by omega), h15 i hi, h15 j hj, if_neg cku, if_neg ckv, let_s, nI_clamp (show us i < 2 ^ 31 by omega), nI_clamp (show us j < 2 ^ 31 by omega), hK _ ui _ uj, nI_1]
    obtain ⟨z', b1, b2, b3⟩ := lp_em1 hn hi hu g f (j + 1) (s_J z (i + 42) (vp_updL (z.2.2.2 (i + 42)) j (jl (K (us i) (us j))))) (by omega) (by omega) h6 h15 (fun r hr c hc => by rw [sJ_ne _ _ (by omega)]; exact hK r hr c hc) (fun k hk => by
      rw [sJ_self]
      by_cases e : k = j
      · rw [e, pk_uLs]
      · rw [pk_uLn e]; exact hz k (by omega))
    exact ⟨z', b1, fr_tr b2 (fr_J z _ (mem1 _)), b3⟩
theorem lp_em2 {n : Nat} {us : Nat → Nat} {K : Nat → Nat → Int} (hn : n ≤ 10) (hu : ∀ k, k < n → us k < 10) : ∀ (g f i : Nat) (z : gS), i + g = n → g < f → z.1 6 = nI n → (∀ k, k < n → z.2.2.1 15 k = nI (us k)) → (∀ r, r < 10 → ∀ c, c < 10 → z.2.2.2 (r + 32) c = jl (K r c)) → (∀ l, l < i → ∀ k, k < n → z.2.2.2 (l + 42) k = jl (K (us l) (us k))) → ∃ z', l_E_make_1_2_15 f z (nI i) = some z' ∧ fr [] [] [] rw42 z' z ∧ ∀ l, l < n → ∀ k, k < n → z'.2.2.2 (l + 42) k = jl (K (us l) (us k))
  | 0, f + 1, i, z, hg, hf, h6, h15, hK, hz => by
    have : i = n := by omega
    subst this
    rw [l_E_make_1_2_15, h6, if_pos (nI_le (Nat.le_refl _) (by omega))]
    exact ⟨z, rfl, fr_rf _ _ _ _ z, hz⟩
  | g + 1, f + 1, i, z, hg, hf, h6, h15, hK, hz => by
    have hi : i < n := by omega
    rw [l_E_make_1_2_15, h6, if_neg (nI_ge hi (by omega))]
    obtain ⟨z1, a1, a2, a3⟩ := lp_em1 hn hi hu n 200 0 z (by omega) (by omega) h6 h15 hK (fun k hk => absurd hk (Nat.not_lt_zero k))
    have a1' : l_E_make_1_2_26 200 z (nI i) 0 = some (nI i, z1) := a1
    rw [a1', bd2_s, nI_1]
    have hf1 := fr_1 a2 (m42 i (by omega))
    obtain ⟨z', b1, b2, b3⟩ := lp_em2 hn hu g f (i + 1) z1 (by omega) (by omega) (by rw [a2.1 6 (by decide)]; exact h6) (fun k hk => by rw [a2.2.2.1 15 (by decide)]; exact h15 k hk) (fun r hr c hc => by rw [a2.2.2.2 (r + 32) (nmem1 (by omega))]; exact hK r hr c hc) (fun l hl k hk => by
      by_cases e : l = i
      · rw [e]; exact a3 k hk
      · rw [a2.2.2.2 (l + 42) (nmem1 (by omega))]; exact hz l (by omega) k hk)
    exact ⟨z', b1, fr_tr b2 hf1, b3⟩
def r3242 : List Nat := [32, 33, 34, 35, 36, 37, 38, 39, 40, 41, 42, 43, 44, 45, 46, 47, 48, 49, 50, 51]
theorem f_em {z : gS} {nb n : Nat} {pt fi se st sp us : Nat → Nat} (hx : cx z nb pt fi se st) (h11 : ∀ d, d < 10 → z.2.2.1 11 d = nI (sp d) ∧ sp d ≤ 3) (hn : n ≤ 10) (h5 : z.1 5 = nI n) (h15 : ∀ k, k < n → z.2.2.1 15 k = nI (us k)) (hu : ∀ k, k < n → us k < 10) : ∃ z', f_E_make_1_2 z = some z' ∧ fr [6] [] [] r3242 z' z ∧ z'.1 6 = nI n ∧ (∀ k, k < 10 → ∀ c, c < 10 → z'.2.2.2 (k + 32) c = jl (KI pt fi se st sp nb k c)) ∧ ∀ l, l < n → ∀ k, k < n → z'.2.2.2 (l + 42) k = jl (KI pt fi se st sp nb (us l) (us k)) := by
  unfold f_E_make_1_2
  obtain ⟨z1, a1, a2, a3⟩ := f_sum (sp := sp) hx h11
  rw [a1, bd1_s, let_s, let_s, a2.1 5 (by decide), h5]
  obtain ⟨z2, b1, b2, b3⟩ := lp_em2 (us := us) (K := KI pt fi se st sp nb) hn hu n 200 0 (s_i z1 6 (nI n)) (by omega) (by omega) (by rw [si_self]) (fun k hk => by rw [si_2, a2.2.2.1 15 (by decide)]; exact h15 k hk) a3 (fun l hl => absurd hl (Nat.not_lt_zero l))
  have b1' : l_E_make_1_2_15 200 (s_i z1 6 (nI n)) 0 = some z2 := b1
  rw [b1', bd1_s]
  refine ⟨z2, rfl, fr_tr (fr_w b2 (by decide) (by decide) (by decide) (by decide)) (fr_tr (fr_i _ _ (by decide)) (fr_w a2 (by decide) (by decide) (by decide) (by decide))), ?_, fun k hk c hc => ?_, b3⟩
  · rw [b2.1 6 (by decide), si_self]
  · rw [b2.2.2.2 (k + 32) (fun m => by have : ∀ q ∈ rw42, 42 ≤ q := (by decide); have := this _ m; omega), si_2]
    exact a3 k hk c hc
