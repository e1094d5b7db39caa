theorem kw_62 : Cond.methodLink RQ_S 3 Lib.objectInit ∈ gt_ws := gt_of 62 (by decide +kernel) (by decide +kernel)
theorem kw_65 : Cond.classLink RQ_S 9 RQ_T ∈ gt_ws := gt_of 65 (by decide +kernel) (by decide +kernel)
theorem kw_66 : Cond.instantiable RQ_T 10 ∈ gt_ws := gt_of 66 (by decide +kernel) (by decide +kernel)
theorem kw_68 : Cond.instanceMethod y_T_init ∈ gt_ws := gt_of 68 (by decide +kernel) (by decide +kernel)
theorem kw_69 : Cond.code y_T_init c_T_init 1 none ∈ gt_ws := gt_of 69 (by decide +kernel) (by decide +kernel)
theorem kw_123 : Cond.classLink RQ_S 16 RQ_N ∈ gt_ws := gt_of 123 (by decide +kernel) (by decide +kernel)
theorem kw_124 : Cond.instantiable RQ_N 7 ∈ gt_ws := gt_of 124 (by decide +kernel) (by decide +kernel)
theorem kw_126 : Cond.instanceMethod y_N_init ∈ gt_ws := gt_of 126 (by decide +kernel) (by decide +kernel)
theorem kw_127 : Cond.code y_N_init c_N_init 1 none ∈ gt_ws := gt_of 127 (by decide +kernel) (by decide +kernel)
theorem kw_159 : Cond.classLink RQ_S 23 RQ_E ∈ gt_ws := gt_of 159 (by decide +kernel) (by decide +kernel)
theorem kw_160 : Cond.instantiable RQ_E 7 ∈ gt_ws := gt_of 160 (by decide +kernel) (by decide +kernel)
theorem kw_162 : Cond.instanceMethod y_E_init ∈ gt_ws := gt_of 162 (by decide +kernel) (by decide +kernel)
theorem kw_163 : Cond.code y_E_init c_E_init 1 none ∈ gt_ws := gt_of 163 (by decide +kernel) (by decide +kernel)
theorem kw_191 : Cond.classLink RQ_S 30 RQ_R ∈ gt_ws := gt_of 191 (by decide +kernel) (by decide +kernel)
theorem kw_192 : Cond.instantiable RQ_R 6 ∈ gt_ws := gt_of 192 (by decide +kernel) (by decide +kernel)
theorem kw_194 : Cond.instanceMethod y_R_init ∈ gt_ws := gt_of 194 (by decide +kernel) (by decide +kernel)
theorem kw_195 : Cond.code y_R_init c_R_init 1 none ∈ gt_ws := gt_of 195 (by decide +kernel) (by decide +kernel)
/-! the maker of the whole object: its four parts, one after the other; then all cells as a store -/
theorem fr_l {D : va_G} {cl : List vw_C} {w c : va_W} {H : Heap} (h : va_P D cl (w ++ c) H) : va_P D cl w H := fun k q hk => h k q (by rw [List.getElem?_append_left (List.getElem?_eq_some_iff.mp hk).1]; exact hk)
theorem fr_r {D : va_G} {cl : List vw_C} {w c : va_W} {H : Heap} (h : va_P D cl (w ++ c) H) : va_P D cl c H := fun k q hk => h (w.length + k) q (by rw [List.getElem?_append_right (by omega), Nat.add_sub_cancel_left]; exact hk)
theorem fr_lD {A : Nat → Prop} {w c : va_W} (h : va_D A (w ++ c)) : va_D A w := by
  have e : ∀ (k : Nat) (q : Nat × va_E), w[k]? = some q → (w ++ c)[k]? = some q := fun k q hk => by rw [List.getElem?_append_left (List.getElem?_eq_some_iff.mp hk).1]; exact hk
  exact ⟨fun i j p q hp hq => h.1 i j p q (e i p hp) (e j q hq), fun k q hk => h.2 k q (e k q hk)⟩
theorem fr_rD {A : Nat → Prop} {w c : va_W} (h : va_D A (w ++ c)) : va_D A c := by
  have e : ∀ (k : Nat) (q : Nat × va_E), c[k]? = some q → (w ++ c)[w.length + k]? = some q := fun k q hk => by rw [List.getElem?_append_right (by omega), Nat.add_sub_cancel_left]; exact hk
  exact ⟨fun i j p q hp hq hh => by have := h.1 _ _ p q (e i p hp) (e j q hq) hh; omega, fun k q hk => h.2 _ q (e k q hk)⟩
theorem fr_A {A : Nat → Prop} {w c : va_W} {H0 H : Heap} {locs : List Loc} (hD : va_D A (w ++ c)) (hS : va_S A H0 H locs) (hA : ∀ q, H0.size ≤ q → A q) : ∀ q, va_A c H.size q → A q := by
  intro q hq
  rcases hq with ⟨k, x, hk⟩ | hq
  · exact (fr_rD hD).2 k (q, x) hk
  · exact hA q (Nat.le_trans hS.1 hq)
theorem fr_off {A : Nat → Prop} {D : va_G} {cl : List vw_C} {w c : va_W} {H : Heap} (hP : va_P D cl (w ++ c) H) (hD : va_D A (w ++ c)) {k : Nat} {q : Nat × va_E} (hk : w[k]? = some q) : q.1 < H.size ∧ ¬ va_A c H.size q.1 := by
  have h1 := ((fr_l hP) k q hk).lt
  refine ⟨h1, fun h => ?_⟩
  rcases h with ⟨j, x, hj⟩ | h
  · have a1 : (w ++ c)[k]? = some q := by rw [List.getElem?_append_left (List.getElem?_eq_some_iff.mp hk).1]; exact hk
    have a2 : (w ++ c)[w.length + j]? = some (q.1, x) := by rw [List.getElem?_append_right (by omega), Nat.add_sub_cancel_left]; exact hj
    have := hD.1 _ _ _ _ a1 a2 rfl
    have := (List.getElem?_eq_some_iff.mp hk).1
    omega
  · omega
theorem fr_join {A : Nat → Prop} {D : va_G} {cl : List vw_C} {w c c1 : va_W} {H H1 : Heap} (hP : va_P D cl (w ++ c) H) (hD : va_D A (w ++ c)) (hk : ∀ q : Nat, q < H.size → ¬ va_A c H.size q → H1[q]? = H[q]?) (hF : ∀ q, va_A c H.size q → A q) (hP1 : va_P D cl c1 H1) (hD1 : va_D (va_A c H.size) c1) : va_P D cl (w ++ c1) H1 ∧ va_D A (w ++ c1) := by
  refine ⟨((fr_l hP).kept (fun k q hq => hk q.1 (fr_off hP hD hq).1 (fr_off hP hD hq).2)).app hP1, (fr_lD hD).app (hD1.weaken (fun _ _ _ h => hF _ h)) (fun i j p q hp hq e => ?_)⟩
  exact (fr_off hP hD hp).2 (e ▸ hD1.2 j q hq)
/-- the numbers of a new object -/
def zI : gS := (fun _ => 0, fun _ => 1, fun _ _ => 0, fun _ _ => 0)
/-- the numbers of a new reference -/
def zJ : gS := (fun _ => 0, fun _ => 0, fun _ _ => 0, fun _ _ => 0)
def nwS (U : State) : Prop := nwI U ∧ va_Nw (.methodLinkNest RQ_S 11 y_T_init RQ_S) U ∧ va_Nw (.methodLinkNest RQ_S 18 y_N_init RQ_S) U ∧ va_Nw (.methodLinkNest RQ_S 25 y_E_init RQ_S) U ∧ va_Nw (.methodLinkNest RQ_S 32 y_R_init RQ_S) U
theorem nwS_ok : nwOk nwS := ⟨fun s U hW h => ⟨nwI_ok.1 s U hW h.1, va_Nw.warmM hW h.2.1, va_Nw.warmM hW h.2.2.1, va_Nw.warmM hW h.2.2.2.1, va_Nw.warmM hW h.2.2.2.2⟩, fun s U hv h => ⟨nwI_ok.2 s U hv h.1, va_Nw.same rfl hv h.2.1, va_Nw.same rfl hv h.2.2.1, va_Nw.same rfl hv h.2.2.2.1, va_Nw.same rfl hv h.2.2.2.2⟩⟩
def ad_S (h0 qT a1 a2 a3 a4 a5 a6 a7 a8 qN b1 b2 b3 b4 qE c1 c2 c3 c4 c5 c6 qR d1 d2 d3 d4 d5 : Nat) : Nat → Nat := fun k => match k with
  | 0 => h0
  | 1 => qT
  | 2 => qN
  | 3 => qE
  | 4 => qR
  | 5 => a1
  | 6 => a2
  | 7 => a3
  | 8 => a4
  | 9 => a5
  | 10 => a6
  | 11 => a7
  | 12 => b1
  | 13 => b2
  | 14 => b3
  | 15 => b4
  | 16 => d1
  | 17 => a8
  | 18 => c1
  | 19 => c2
  | 20 => c3
  | 21 => c4
  | 22 => c5
  | 23 => c6
  | 24 => d2
  | 25 => d3
  | 26 => d4
  | 27 => d5
  | k + 28 => if k < 4 then a8 + 1 + k else if k < 14 then c1 + 1 + (k - 4) else c2 + 1 + (k - 14)
theorem ad_28 (h0 qT a1 a2 a3 a4 a5 a6 a7 a8 qN b1 b2 b3 b4 qE c1 c2 c3 c4 c5 c6 qR d1 d2 d3 d4 d5 : Nat) {i : Nat} (h : i < 4) : ad_S h0 qT a1 a2 a3 a4 a5 a6 a7 a8 qN b1 b2 b3 b4 qE c1 c2 c3 c4 c5 c6 qR d1 d2 d3 d4 d5 (i + 28) = a8 + 1 + i := by
  show (if i < 4 then a8 + 1 + i else if i < 14 then c1 + 1 + (i - 4) else c2 + 1 + (i - 14)) = _
  rw [if_pos h]
theorem ad_32 (h0 qT a1 a2 a3 a4 a5 a6 a7 a8 qN b1 b2 b3 b4 qE c1 c2 c3 c4 c5 c6 qR d1 d2 d3 d4 d5 : Nat) {i : Nat} (h : i < 10) : ad_S h0 qT a1 a2 a3 a4 a5 a6 a7 a8 qN b1 b2 b3 b4 qE c1 c2 c3 c4 c5 c6 qR d1 d2 d3 d4 d5 (i + 32) = c1 + 1 + i := by
  show (if i + 4 < 4 then a8 + 1 + (i + 4) else if i + 4 < 14 then c1 + 1 + (i + 4 - 4) else c2 + 1 + (i + 4 - 14)) = _
  rw [if_neg (by omega), if_pos (by omega)]
  omega
theorem ad_42 (h0 qT a1 a2 a3 a4 a5 a6 a7 a8 qN b1 b2 b3 b4 qE c1 c2 c3 c4 c5 c6 qR d1 d2 d3 d4 d5 : Nat) {i : Nat} (h : i < 10) : ad_S h0 qT a1 a2 a3 a4 a5 a6 a7 a8 qN b1 b2 b3 b4 qE c1 c2 c3 c4 c5 c6 qR d1 d2 d3 d4 d5 (i + 42) = c2 + 1 + i := by
  show (if i + 14 < 4 then a8 + 1 + (i + 14) else if i + 14 < 14 then c1 + 1 + (i + 14 - 4) else c2 + 1 + (i + 14 - 14)) = _
  rw [if_neg (by omega), if_neg (by omega)]
  omega
def gm_S : List Nat := [0, 1, 14, 19, 46, 2, 3, 4, 5, 6, 7, 8, 15, 16, 17, 18, 47, 9, 20, 31, 42, 43, 44, 45, 48, 49, 50, 51, 10, 11, 12, 13, 21, 22, 23, 24, 25, 26, 27, 28, 29, 30, 32, 33, 34, 35, 36, 37, 38, 39, 40, 41]
set_option maxHeartbeats 4000000 in
set_option maxRecDepth 100000 in
theorem gm_at (cy : Nat → ClassId) (h0 qT a1 a2 a3 a4 a5 a6 a7 a8 qN b1 b2 b3 b4 qE c1 c2 c3 c4 c5 c6 qR d1 d2 d3 d4 d5 : Nat) : ∀ k, k < 52 → (((h0, .inr (4, [.ref qT, .ref qN, .ref qE, .ref qR, .int 0])) :: (((nw_T cy qT a1 a2 a3 a4 a5 a6 a7 a8 ++ nw_N cy qN b1 b2 b3 b4) ++ nw_E cy qE c1 c2 c3 c4 c5 c6) ++ nw_R cy qR d1 d2 d3 d4 d5)) : va_W)[gm_S.getD k 0]? = some (ad_S h0 qT a1 a2 a3 a4 a5 a6 a7 a8 qN b1 b2 b3 b4 qE c1 c2 c3 c4 c5 c6 qR d1 d2 d3 d4 d5 k, g1 cy (ad_S h0 qT a1 a2 a3 a4 a5 a6 a7 a8 qN b1 b2 b3 b4 qE c1 c2 c3 c4 c5 c6 qR d1 d2 d3 d4 d5) zI k) := by
  intro k hk
  match k, hk with
  | 0, _ => rfl
  | 1, _ => rfl
  | 2, _ => rfl
  | 3, _ => rfl
  | 4, _ => rfl
  | 5, _ => rfl
  | 6, _ => rfl
  | 7, _ => rfl
  | 8, _ => rfl
  | 9, _ => rfl
  | 10, _ => rfl
  | 11, _ => rfl
  | 12, _ => rfl
  | 13, _ => rfl
  | 14, _ => rfl
  | 15, _ => rfl
  | 16, _ => rfl
  | 17, _ =>
    rw [e_g1_17]
    have e9 : (fun i => if i < 4 then some (ad_S h0 qT a1 a2 a3 a4 a5 a6 a7 a8 qN b1 b2 b3 b4 qE c1 c2 c3 c4 c5 c6 qR d1 d2 d3 d4 d5 (i + 28)) else none) = (fun i => if i < 4 then some (a8 + 1 + i) else none) := funext fun i => by
      by_cases h : i < 4
      · rw [if_pos h, if_pos h, ad_28 h0 qT a1 a2 a3 a4 a5 a6 a7 a8 qN b1 b2 b3 b4 qE c1 c2 c3 c4 c5 c6 qR d1 d2 d3 d4 d5 h]
      · rw [if_neg h, if_neg h]
    rw [e9]
    rfl
  | 18, _ =>
    rw [e_g1_18]
    have e9 : (fun i => if i < 10 then some (ad_S h0 qT a1 a2 a3 a4 a5 a6 a7 a8 qN b1 b2 b3 b4 qE c1 c2 c3 c4 c5 c6 qR d1 d2 d3 d4 d5 (i + 32)) else none) = (fun i => if i < 10 then some (c1 + 1 + i) else none) := funext fun i => by
      by_cases h : i < 10
      · rw [if_pos h, if_pos h, ad_32 h0 qT a1 a2 a3 a4 a5 a6 a7 a8 qN b1 b2 b3 b4 qE c1 c2 c3 c4 c5 c6 qR d1 d2 d3 d4 d5 h]
      · rw [if_neg h, if_neg h]
    rw [e9]
    rfl
  | 19, _ =>
    rw [e_g1_19]
    have e9 : (fun i => if i < 10 then some (ad_S h0 qT a1 a2 a3 a4 a5 a6 a7 a8 qN b1 b2 b3 b4 qE c1 c2 c3 c4 c5 c6 qR d1 d2 d3 d4 d5 (i + 42)) else none) = (fun i => if i < 10 then some (c2 + 1 + i) else none) := funext fun i => by
      by_cases h : i < 10
      · rw [if_pos h, if_pos h, ad_42 h0 qT a1 a2 a3 a4 a5 a6 a7 a8 qN b1 b2 b3 b4 qE c1 c2 c3 c4 c5 c6 qR d1 d2 d3 d4 d5 h]
      · rw [if_neg h, if_neg h]
    rw [e9]
    rfl
  | 20, _ => rfl
  | 21, _ => rfl
  | 22, _ => rfl
  | 23, _ => rfl
  | 24, _ => rfl
  | 25, _ => rfl
  | 26, _ => rfl
  | 27, _ => rfl
  | 28, _ => rfl
  | 29, _ => rfl
  | 30, _ => rfl
  | 31, _ => rfl
  | 32, _ => rfl
  | 33, _ => rfl
  | 34, _ => rfl
  | 35, _ => rfl
  | 36, _ => rfl
  | 37, _ => rfl
  | 38, _ => rfl
  | 39, _ => rfl
  | 40, _ => rfl
  | 41, _ => rfl
  | 42, _ => rfl
  | 43, _ => rfl
  | 44, _ => rfl
  | 45, _ => rfl
  | 46, _ => rfl
  | 47, _ => rfl
  | 48, _ => rfl
  | 49, _ => rfl
  | 50, _ => rfl
  | 51, _ => rfl
  | k + 52, h => exact absurd h (by omega)
theorem gm_inj : ∀ i, i < 52 → ∀ j, j < 52 → gm_S.getD i 0 = gm_S.getD j 0 → i = j := by decide +kernel
theorem st_S {D : va_G} {cy : Nat → ClassId} {h0 qT a1 a2 a3 a4 a5 a6 a7 a8 qN b1 b2 b3 b4 qE c1 c2 c3 c4 c5 c6 qR d1 d2 d3 d4 d5 : Nat} {A : Nat → Prop} {H : Heap} (hP : va_P D cl_all ((h0, .inr (4, [.ref qT, .ref qN, .ref qE, .ref qR, .int 0])) :: (((nw_T cy qT a1 a2 a3 a4 a5 a6 a7 a8 ++ nw_N cy qN b1 b2 b3 b4) ++ nw_E cy qE c1 c2 c3 c4 c5 c6) ++ nw_R cy qR d1 d2 d3 d4 d5)) H) (hD : va_D A ((h0, .inr (4, [.ref qT, .ref qN, .ref qE, .ref qR, .int 0])) :: (((nw_T cy qT a1 a2 a3 a4 a5 a6 a7 a8 ++ nw_N cy qN b1 b2 b3 b4) ++ nw_E cy qE c1 c2 c3 c4 c5 c6) ++ nw_R cy qR d1 d2 d3 d4 d5))) : va_P D cl_all (wl 52 (ad_S h0 qT a1 a2 a3 a4 a5 a6 a7 a8 qN b1 b2 b3 b4 qE c1 c2 c3 c4 c5 c6 qR d1 d2 d3 d4 d5) (g1 cy (ad_S h0 qT a1 a2 a3 a4 a5 a6 a7 a8 qN b1 b2 b3 b4 qE c1 c2 c3 c4 c5 c6 qR d1 d2 d3 d4 d5) zI)) H ∧ va_D A (wl 52 (ad_S h0 qT a1 a2 a3 a4 a5 a6 a7 a8 qN b1 b2 b3 b4 qE c1 c2 c3 c4 c5 c6 qR d1 d2 d3 d4 d5) (g1 cy (ad_S h0 qT a1 a2 a3 a4 a5 a6 a7 a8 qN b1 b2 b3 b4 qE c1 c2 c3 c4 c5 c6 qR d1 d2 d3 d4 d5) zI)) := by
  have hg : ∀ (k : Nat) (q : Nat × va_E), (wl 52 (ad_S h0 qT a1 a2 a3 a4 a5 a6 a7 a8 qN b1 b2 b3 b4 qE c1 c2 c3 c4 c5 c6 qR d1 d2 d3 d4 d5) (g1 cy (ad_S h0 qT a1 a2 a3 a4 a5 a6 a7 a8 qN b1 b2 b3 b4 qE c1 c2 c3 c4 c5 c6 qR d1 d2 d3 d4 d5) zI))[k]? = some q → (((h0, .inr (4, [.ref qT, .ref qN, .ref qE, .ref qR, .int 0])) :: (((nw_T cy qT a1 a2 a3 a4 a5 a6 a7 a8 ++ nw_N cy qN b1 b2 b3 b4) ++ nw_E cy qE c1 c2 c3 c4 c5 c6) ++ nw_R cy qR d1 d2 d3 d4 d5)) : va_W)[gm_S.getD k 0]? = some q := by
    intro k q h
    obtain ⟨hk, rfl⟩ := wl_at h
    exact gm_at cy h0 qT a1 a2 a3 a4 a5 a6 a7 a8 qN b1 b2 b3 b4 qE c1 c2 c3 c4 c5 c6 qR d1 d2 d3 d4 d5 k hk
  exact ⟨hP.by _ hg, hD.by _ hg (fun i j hi hj h => gm_inj i (by rw [wl_len] at hi; exact hi) j (by rw [wl_len] at hj; exact hj) h)⟩
set_option maxHeartbeats 4000000 in
set_option maxRecDepth 100000 in
theorem m_S_init (l : Launch) (D : va_G) (cy : Nat → ClassId) (h0 sz : Nat) : Met l y_S_init (Cond.code y_S_init c_S_init 1 none :: gt_ws) ({ frames := 2, cells := 51, slots := 480, locals := 90 }) (va_Pc [.ref h0] (fun U => U.heap.size = sz ∧ va_P D cl_all [(h0, .inr (4, [.null, .null, .null, .null, .int 0]))] U.heap ∧ va_K D cl_all (gTy cy) U ∧ nwS U ∧ va_D (fun _ => True) [(h0, .inr (4, [.null, .null, .null, .null, .int 0]))])) (va_Qv (fun (ad : Nat → Nat) => ad 0 = h0) (fun ad t => va_P D cl_all (wl 52 ad (g1 cy ad zI)) t.heap ∧ va_D (va_A [(h0, .inr (4, [.null, .null, .null, .null, .int 0]))] sz) (wl 52 ad (g1 cy ad zI))) (va_A [(h0, .inr (4, [.null, .null, .null, .null, .int 0]))] sz)) 51 480 (va_A [(h0, .inr (4, [.null, .null, .null, .null, .int 0]))] sz) := by
  refine Met.ofW (cc := c_S_init) (maxL := 1) (ret := none) (by decide) rfl ?_
  intro p e s m args below meth c s₁ B hml hv
  obtain ⟨rfl, hsz, hP, hK, hN, hD0⟩ := hv
  have hx := B.exec
  have hb := B.bytes
  have hr := B.returns
  have hts := atoms_spec (ws := (Cond.code y_S_init c_S_init 1 none :: gt_ws)) B.pre
  have ht : ∀ w ∈ gt_ws, w.before _ s = true := fun w h => hts w (List.mem_cons_of_mem _ h)
  have hown : s.vm.findClass RQ_S = some m.cls := findClass_of_methodNamed B.named
  have hlocks := B.notSynchronized
  have hin : meth.name = "<init>" := (name_of_methodNamed B.named B.method).1
  subst hsz
  have hD := hD0.self (sz := s.heap.size)
  obtain ⟨A, hAe⟩ : ∃ A, A = va_A [(h0, .inr (4, [.null, .null, .null, .null, .int 0]))] s.heap.size := ⟨_, rfl⟩
  rw [← hAe] at hD
  have hA : ∀ q : Nat, s.heap.size ≤ q → A q := fun q h => by rw [hAe]; exact Or.inr h
  have hS : va_S A s.heap s.heap [] := va_S.rf
  have hl := lv_entry ([.ref h0]) (n := 1) (Nat.le_of_ble_eq_true rfl)
  rw [lg_entry_eq]
  generalize (lg_sl ([.ref h0]) ++ List.replicate (1 - (lg_sl ([.ref h0])).length) Slot.unset).toArray = ls at hl ⊢
  have hl : lv_has ls 1 [(0, .ref h0)] := hl
  refine lv_aload_n hx hb d_S_init_0 rfl (lv_at hl 0 rfl) ?_
  refine W.objInit hx hb hown (ht _ kw_62) (ht _ kw_63) (ht _ kw_64) rfl (by rw [hml]; exact hl.1) rfl d_S_init_1 (Nat.le_of_ble_eq_true rfl) (Nat.le_of_ble_eq_true rfl) ?_
  refine W.eq (g2 := F0 m 4 ls []) rfl ?_
  refine lv_aload_n hx hb d_S_init_4 rfl (lv_at hl 0 rfl) ?_
  refine va_new (ci := 3) (fs := [.int 0, .null, .null, .null, .null, .int 0, .null, .null, .null, .null]) (C := RQ_T) (T := FQ_T) (N := 10) hx hb ht IQ_T TQ_T TQ_T_ok hown (ht _ kw_65) (ht _ kw_66) (ht _ kw_48) hK hP hD hS hA rfl (fun j hj => by match j, hj with | 0, _ => rfl | 1, _ => rfl | 2, _ => rfl | 3, _ => rfl | 4, _ => rfl | 5, _ => rfl | 6, _ => rfl | 7, _ => rfl | 8, _ => rfl | 9, _ => rfl) (Nat.le_of_ble_eq_true rfl) (Nat.le_of_ble_eq_true rfl) d_S_init_5 (fun qT H hP hD hS => ?_)
  have hP : va_P D cl_all (((h0, .inr (4, [.null, .null, .null, .null, .int 0])) :: ([] : va_W)) ++ [(qT, .inr (3, [.int 0, .null, .null, .null, .null, .int 0, .null, .null, .null, .null]))]) H := hP
  have hD : va_D A (((h0, .inr (4, [.null, .null, .null, .null, .int 0])) :: ([] : va_W)) ++ [(qT, .inr (3, [.int 0, .null, .null, .null, .null, .int 0, .null, .null, .null, .null]))]) := hD
  refine W.widen (k := 1) (n := 10) (by omega) (by omega) ?_
  refine lv_dup hx hb d_S_init_8 rfl ?_
  have hFc := fr_A hD hS hA
  refine va_callv (va_runIN (As := []) (rest := [.ref qT, .ref h0]) ⟨hx, hb, hml, hown, ht⟩ (m_T_init l D cy qT H.size) ⟨va_cnB 0 ht (gt_in (fun _ h9 => h9) kw_69) rfl rfl rfl hN.2.1 (ht _ kw_48) (by decide +kernel) ⟨Nat.le_of_ble_eq_true rfl, Nat.le_of_ble_eq_true rfl⟩, rfl, ht _ kw_68⟩ ⟨fun a U g mk q => by obtain ⟨q0, q1, qP, qK, qN, qD⟩ := q; exact ⟨q0, q1, qP, va_K.moved (u := U) (U := U.calling g mk a) (Vm.Alike.refl U.vm) qK, nwI_ok.2 U _ rfl qN, qD⟩, fun U hU hW => ⟨rfl, by rw [hU], by rw [hU]; exact fr_r hP, va_K.moved hW.alike hK, nwI_ok.1 s U hW hN.1, (fr_rD hD).weaken (fun _ _ _ _ => trivial)⟩⟩ rfl rfl hl.1 rfl (lv_room (Nat.le_of_ble_eq_true rfl)) d_S_init_9 ⟨Nat.le_of_ble_eq_true rfl, Nat.le_of_ble_eq_true rfl⟩) hS (fun q _ h => hFc q h) hFc (fun u t H1 locs ht9 hvm hw hB hz1 hk1 hS => ?_)
  obtain ⟨a1, a2, a3, a4, a5, a6, a7, a8⟩ := u
  obtain ⟨hP1, hD1⟩ := hB
  rw [ht9] at hP1
  obtain ⟨hP, hD⟩ := fr_join hP hD hk1 hFc hP1 hD1
  generalize H1 = H at hP hS ⊢
  have hP : va_P D cl_all ((h0, .inr (4, [.null, .null, .null, .null, .int 0])) :: nw_T cy qT a1 a2 a3 a4 a5 a6 a7 a8) H := hP
  have hD : va_D A ((h0, .inr (4, [.null, .null, .null, .null, .int 0])) :: nw_T cy qT a1 a2 a3 a4 a5 a6 a7 a8) := hD
  refine W.widen (k := 13) (n := 124) (by omega) (by omega) ?_
  refine va_putF (D := D) (ci := 4) (v := .ref qT) (ty := .object "TrussSolver$Truss") (C := RQ_S) (T := FQ_S) (N := 5) hx hb ht IQ_S TQ_S TQ_S_ok NQ_S hown hK hP hD hS 0 rfl rfl 0 (by decide) (ht _ kw_217) (fun _ h9 => h9) rfl hin rfl (by decide +kernel) rfl rfl (Nat.le_of_ble_eq_true rfl) d_S_init_12 (fun H locs hP hD hS => ?_)
  have hP : va_P D cl_all ((h0, .inr (4, [.ref qT, .null, .null, .null, .int 0])) :: nw_T cy qT a1 a2 a3 a4 a5 a6 a7 a8) H := hP
  have hD : va_D A ((h0, .inr (4, [.ref qT, .null, .null, .null, .int 0])) :: nw_T cy qT a1 a2 a3 a4 a5 a6 a7 a8) := hD
  refine lv_aload_n hx hb d_S_init_15 rfl (lv_at hl 0 rfl) ?_
  refine va_new (ci := 1) (fs := [.null, .int 0, .int 0, .null, .null, .null, .int 0]) (C := RQ_N) (T := FQ_N) (N := 7) hx hb ht IQ_N TQ_N TQ_N_ok hown (ht _ kw_123) (ht _ kw_124) (ht _ kw_49) hK hP hD hS hA rfl (fun j hj => by match j, hj with | 0, _ => rfl | 1, _ => rfl | 2, _ => rfl | 3, _ => rfl | 4, _ => rfl | 5, _ => rfl | 6, _ => rfl) (Nat.le_of_ble_eq_true rfl) (Nat.le_of_ble_eq_true rfl) d_S_init_16 (fun qN H hP hD hS => ?_)
  have hP : va_P D cl_all (((h0, .inr (4, [.ref qT, .null, .null, .null, .int 0])) :: nw_T cy qT a1 a2 a3 a4 a5 a6 a7 a8) ++ [(qN, .inr (1, [.null, .int 0, .int 0, .null, .null, .null, .int 0]))]) H := hP
  have hD : va_D A (((h0, .inr (4, [.ref qT, .null, .null, .null, .int 0])) :: nw_T cy qT a1 a2 a3 a4 a5 a6 a7 a8) ++ [(qN, .inr (1, [.null, .int 0, .int 0, .null, .null, .null, .int 0]))]) := hD
  refine W.widen (k := 14) (n := 131) (by omega) (by omega) ?_
  refine lv_dup hx hb d_S_init_19 rfl ?_
  have hFc := fr_A hD hS hA
  refine va_callv (va_runIN (As := []) (rest := [.ref qN, .ref h0]) ⟨hx, hb, hml, hown, ht⟩ (m_N_init l D cy qN H.size) ⟨va_cnB 0 ht (gt_in (fun _ h9 => h9) kw_127) rfl rfl rfl hN.2.2.1 (ht _ kw_49) (by decide +kernel) ⟨Nat.le_of_ble_eq_true rfl, Nat.le_of_ble_eq_true rfl⟩, rfl, ht _ kw_126⟩ ⟨fun a U g mk q => by obtain ⟨q0, q1, qP, qK, qN, qD⟩ := q; exact ⟨q0, q1, qP, va_K.moved (u := U) (U := U.calling g mk a) (Vm.Alike.refl U.vm) qK, nwI_ok.2 U _ rfl qN, qD⟩, fun U hU hW => ⟨rfl, by rw [hU], by rw [hU]; exact fr_r hP, va_K.moved hW.alike hK, nwI_ok.1 s U hW hN.1, (fr_rD hD).weaken (fun _ _ _ _ => trivial)⟩⟩ rfl rfl hl.1 rfl (lv_room (Nat.le_of_ble_eq_true rfl)) d_S_init_20 ⟨Nat.le_of_ble_eq_true rfl, Nat.le_of_ble_eq_true rfl⟩) hS (fun q _ h => hFc q h) hFc (fun u t H1 locs ht9 hvm hw hB hz1 hk1 hS => ?_)
  obtain ⟨b1, b2, b3, b4⟩ := u
  obtain ⟨hP1, hD1⟩ := hB
  rw [ht9] at hP1
  obtain ⟨hP, hD⟩ := fr_join hP hD hk1 hFc hP1 hD1
  generalize H1 = H at hP hS ⊢
  have hP : va_P D cl_all ((h0, .inr (4, [.ref qT, .null, .null, .null, .int 0])) :: (nw_T cy qT a1 a2 a3 a4 a5 a6 a7 a8 ++ nw_N cy qN b1 b2 b3 b4)) H := hP
  have hD : va_D A ((h0, .inr (4, [.ref qT, .null, .null, .null, .int 0])) :: (nw_T cy qT a1 a2 a3 a4 a5 a6 a7 a8 ++ nw_N cy qN b1 b2 b3 b4)) := hD
  refine W.widen (k := 18) (n := 161) (by omega) (by omega) ?_
  refine va_putF (D := D) (ci := 4) (v := .ref qN) (ty := .object "TrussSolver$Numbering") (C := RQ_S) (T := FQ_S) (N := 5) hx hb ht IQ_S TQ_S TQ_S_ok NQ_S hown hK hP hD hS 0 rfl rfl 1 (by decide) (ht _ kw_218) (fun _ h9 => h9) rfl hin rfl (by decide +kernel) rfl rfl (Nat.le_of_ble_eq_true rfl) d_S_init_23 (fun H locs hP hD hS => ?_)
  have hP : va_P D cl_all ((h0, .inr (4, [.ref qT, .ref qN, .null, .null, .int 0])) :: (nw_T cy qT a1 a2 a3 a4 a5 a6 a7 a8 ++ nw_N cy qN b1 b2 b3 b4)) H := hP
  have hD : va_D A ((h0, .inr (4, [.ref qT, .ref qN, .null, .null, .int 0])) :: (nw_T cy qT a1 a2 a3 a4 a5 a6 a7 a8 ++ nw_N cy qN b1 b2 b3 b4)) := hD
  refine lv_aload_n hx hb d_S_init_26 rfl (lv_at hl 0 rfl) ?_
  refine va_new (ci := 0) (fs := [.null, .null, .int 0, .null, .null, .null, .null]) (C := RQ_E) (T := FQ_E) (N := 7) hx hb ht IQ_E TQ_E TQ_E_ok hown (ht _ kw_159) (ht _ kw_160) (ht _ kw_50) hK hP hD hS hA rfl (fun j hj => by match j, hj with | 0, _ => rfl | 1, _ => rfl | 2, _ => rfl | 3, _ => rfl | 4, _ => rfl | 5, _ => rfl | 6, _ => rfl) (Nat.le_of_ble_eq_true rfl) (Nat.le_of_ble_eq_true rfl) d_S_init_27 (fun qE H hP hD hS => ?_)
  have hP : va_P D cl_all (((h0, .inr (4, [.ref qT, .ref qN, .null, .null, .int 0])) :: (nw_T cy qT a1 a2 a3 a4 a5 a6 a7 a8 ++ nw_N cy qN b1 b2 b3 b4)) ++ [(qE, .inr (0, [.null, .null, .int 0, .null, .null, .null, .null]))]) H := hP
  have hD : va_D A (((h0, .inr (4, [.ref qT, .ref qN, .null, .null, .int 0])) :: (nw_T cy qT a1 a2 a3 a4 a5 a6 a7 a8 ++ nw_N cy qN b1 b2 b3 b4)) ++ [(qE, .inr (0, [.null, .null, .int 0, .null, .null, .null, .null]))]) := hD
  refine W.widen (k := 19) (n := 168) (by omega) (by omega) ?_
  refine lv_dup hx hb d_S_init_30 rfl ?_
  have hFc := fr_A hD hS hA
  refine va_callv (va_runIN (As := []) (rest := [.ref qE, .ref h0]) ⟨hx, hb, hml, hown, ht⟩ (m_E_init l D cy qE H.size) ⟨va_cnB 0 ht (gt_in (fun _ h9 => h9) kw_163) rfl rfl rfl hN.2.2.2.1 (ht _ kw_50) (by decide +kernel) ⟨Nat.le_of_ble_eq_true rfl, Nat.le_of_ble_eq_true rfl⟩, rfl, ht _ kw_162⟩ ⟨fun a U g mk q => by obtain ⟨q0, q1, qP, qK, qN, qD⟩ := q; exact ⟨q0, q1, qP, va_K.moved (u := U) (U := U.calling g mk a) (Vm.Alike.refl U.vm) qK, nwI_ok.2 U _ rfl qN, qD⟩, fun U hU hW => ⟨rfl, by rw [hU], by rw [hU]; exact fr_r hP, va_K.moved hW.alike hK, nwI_ok.1 s U hW hN.1, (fr_rD hD).weaken (fun _ _ _ _ => trivial)⟩⟩ rfl rfl hl.1 rfl (lv_room (Nat.le_of_ble_eq_true rfl)) d_S_init_31 ⟨Nat.le_of_ble_eq_true rfl, Nat.le_of_ble_eq_true rfl⟩) hS (fun q _ h => hFc q h) hFc (fun u t H1 locs ht9 hvm hw hB hz1 hk1 hS => ?_)
  obtain ⟨c1, c2, c3, c4, c5, c6⟩ := u
  obtain ⟨hP1, hD1⟩ := hB
  rw [ht9] at hP1
  obtain ⟨hP, hD⟩ := fr_join hP hD hk1 hFc hP1 hD1
  generalize H1 = H at hP hS ⊢
  have hP : va_P D cl_all ((h0, .inr (4, [.ref qT, .ref qN, .null, .null, .int 0])) :: ((nw_T cy qT a1 a2 a3 a4 a5 a6 a7 a8 ++ nw_N cy qN b1 b2 b3 b4) ++ nw_E cy qE c1 c2 c3 c4 c5 c6)) H := hP
  have hD : va_D A ((h0, .inr (4, [.ref qT, .ref qN, .null, .null, .int 0])) :: ((nw_T cy qT a1 a2 a3 a4 a5 a6 a7 a8 ++ nw_N cy qN b1 b2 b3 b4) ++ nw_E cy qE c1 c2 c3 c4 c5 c6)) := hD
  refine W.widen (k := 45) (n := 430) (by omega) (by omega) ?_
  refine va_putF (D := D) (ci := 4) (v := .ref qE) (ty := .object "TrussSolver$Equations") (C := RQ_S) (T := FQ_S) (N := 5) hx hb ht IQ_S TQ_S TQ_S_ok NQ_S hown hK hP hD hS 0 rfl rfl 2 (by decide) (ht _ kw_219) (fun _ h9 => h9) rfl hin rfl (by decide +kernel) rfl rfl (Nat.le_of_ble_eq_true rfl) d_S_init_34 (fun H locs hP hD hS => ?_)
  have hP : va_P D cl_all ((h0, .inr (4, [.ref qT, .ref qN, .ref qE, .null, .int 0])) :: ((nw_T cy qT a1 a2 a3 a4 a5 a6 a7 a8 ++ nw_N cy qN b1 b2 b3 b4) ++ nw_E cy qE c1 c2 c3 c4 c5 c6)) H := hP
  have hD : va_D A ((h0, .inr (4, [.ref qT, .ref qN, .ref qE, .null, .int 0])) :: ((nw_T cy qT a1 a2 a3 a4 a5 a6 a7 a8 ++ nw_N cy qN b1 b2 b3 b4) ++ nw_E cy qE c1 c2 c3 c4 c5 c6)) := hD
  refine lv_aload_n hx hb d_S_init_37 rfl (lv_at hl 0 rfl) ?_
  refine va_new (ci := 2) (fs := [.null, .null, .null, .null, .null, .long 0]) (C := RQ_R) (T := FQ_R) (N := 6) hx hb ht IQ_R TQ_R TQ_R_ok hown (ht _ kw_191) (ht _ kw_192) (ht _ kw_51) hK hP hD hS hA rfl (fun j hj => by match j, hj with | 0, _ => rfl | 1, _ => rfl | 2, _ => rfl | 3, _ => rfl | 4, _ => rfl | 5, _ => rfl) (Nat.le_of_ble_eq_true rfl) (Nat.le_of_ble_eq_true rfl) d_S_init_38 (fun qR H hP hD hS => ?_)
  have hP : va_P D cl_all (((h0, .inr (4, [.ref qT, .ref qN, .ref qE, .null, .int 0])) :: ((nw_T cy qT a1 a2 a3 a4 a5 a6 a7 a8 ++ nw_N cy qN b1 b2 b3 b4) ++ nw_E cy qE c1 c2 c3 c4 c5 c6)) ++ [(qR, .inr (2, [.null, .null, .null, .null, .null, .long 0]))]) H := hP
  have hD : va_D A (((h0, .inr (4, [.ref qT, .ref qN, .ref qE, .null, .int 0])) :: ((nw_T cy qT a1 a2 a3 a4 a5 a6 a7 a8 ++ nw_N cy qN b1 b2 b3 b4) ++ nw_E cy qE c1 c2 c3 c4 c5 c6)) ++ [(qR, .inr (2, [.null, .null, .null, .null, .null, .long 0]))]) := hD
  refine W.widen (k := 46) (n := 436) (by omega) (by omega) ?_
  refine lv_dup hx hb d_S_init_41 rfl ?_
  have hFc := fr_A hD hS hA
  refine va_callv (va_runIN (As := []) (rest := [.ref qR, .ref h0]) ⟨hx, hb, hml, hown, ht⟩ (m_R_init l D cy qR H.size) ⟨va_cnB 0 ht (gt_in (fun _ h9 => h9) kw_195) rfl rfl rfl hN.2.2.2.2 (ht _ kw_51) (by decide +kernel) ⟨Nat.le_of_ble_eq_true rfl, Nat.le_of_ble_eq_true rfl⟩, rfl, ht _ kw_194⟩ ⟨fun a U g mk q => by obtain ⟨q0, q1, qP, qK, qN, qD⟩ := q; exact ⟨q0, q1, qP, va_K.moved (u := U) (U := U.calling g mk a) (Vm.Alike.refl U.vm) qK, nwI_ok.2 U _ rfl qN, qD⟩, fun U hU hW => ⟨rfl, by rw [hU], by rw [hU]; exact fr_r hP, va_K.moved hW.alike hK, nwI_ok.1 s U hW hN.1, (fr_rD hD).weaken (fun _ _ _ _ => trivial)⟩⟩ rfl rfl hl.1 rfl (lv_room (Nat.le_of_ble_eq_true rfl)) d_S_init_42 ⟨Nat.le_of_ble_eq_true rfl, Nat.le_of_ble_eq_true rfl⟩) hS (fun q _ h => hFc q h) hFc (fun u t H1 locs ht9 hvm hw hB hz1 hk1 hS => ?_)
  obtain ⟨d1, d2, d3, d4, d5⟩ := u
  obtain ⟨hP1, hD1⟩ := hB
  rw [ht9] at hP1
  obtain ⟨hP, hD⟩ := fr_join hP hD hk1 hFc hP1 hD1
  generalize H1 = H at hP hS ⊢
  have hP : va_P D cl_all ((h0, .inr (4, [.ref qT, .ref qN, .ref qE, .null, .int 0])) :: (((nw_T cy qT a1 a2 a3 a4 a5 a6 a7 a8 ++ nw_N cy qN b1 b2 b3 b4) ++ nw_E cy qE c1 c2 c3 c4 c5 c6) ++ nw_R cy qR d1 d2 d3 d4 d5)) H := hP
  have hD : va_D A ((h0, .inr (4, [.ref qT, .ref qN, .ref qE, .null, .int 0])) :: (((nw_T cy qT a1 a2 a3 a4 a5 a6 a7 a8 ++ nw_N cy qN b1 b2 b3 b4) ++ nw_E cy qE c1 c2 c3 c4 c5 c6) ++ nw_R cy qR d1 d2 d3 d4 d5)) := hD
  refine W.widen (k := 51) (n := 480) (by omega) (by omega) ?_
  refine va_putF (D := D) (ci := 4) (v := .ref qR) (ty := .object "TrussSolver$Response") (C := RQ_S) (T := FQ_S) (N := 5) hx hb ht IQ_S TQ_S TQ_S_ok NQ_S hown hK hP hD hS 0 rfl rfl 3 (by decide) (ht _ kw_220) (fun _ h9 => h9) rfl hin rfl (by decide +kernel) rfl rfl (Nat.le_of_ble_eq_true rfl) d_S_init_45 (fun H locs hP hD hS => ?_)
  have hP : va_P D cl_all ((h0, .inr (4, [.ref qT, .ref qN, .ref qE, .ref qR, .int 0])) :: (((nw_T cy qT a1 a2 a3 a4 a5 a6 a7 a8 ++ nw_N cy qN b1 b2 b3 b4) ++ nw_E cy qE c1 c2 c3 c4 c5 c6) ++ nw_R cy qR d1 d2 d3 d4 d5)) H := hP
  have hD : va_D A ((h0, .inr (4, [.ref qT, .ref qN, .ref qE, .ref qR, .int 0])) :: (((nw_T cy qT a1 a2 a3 a4 a5 a6 a7 a8 ++ nw_N cy qN b1 b2 b3 b4) ++ nw_E cy qE c1 c2 c3 c4 c5 c6) ++ nw_R cy qR d1 d2 d3 d4 d5)) := hD
  refine lv_aload_n hx hb d_S_init_48 rfl (lv_at hl 0 rfl) ?_
  refine lv_iconst (v := 0) hx hb d_S_init_49 (by decide) ?_
  refine va_put (D := D) (ci := 4) (v := .int 0) (ty := .boolean) (C := RQ_S) (T := FQ_S) (N := 5) hx hb ht IQ_S TQ_S TQ_S_ok NQ_S hown hK hP hD hS 0 rfl rfl 4 (by decide) (ht _ kw_221) (fun _ h9 => h9) rfl (by decide +kernel) rfl rfl (Nat.le_of_ble_eq_true rfl) d_S_init_50 (fun H locs hP hD hS => ?_)
  have hP : va_P D cl_all ((h0, .inr (4, [.ref qT, .ref qN, .ref qE, .ref qR, .int 0])) :: (((nw_T cy qT a1 a2 a3 a4 a5 a6 a7 a8 ++ nw_N cy qN b1 b2 b3 b4) ++ nw_E cy qE c1 c2 c3 c4 c5 c6) ++ nw_R cy qR d1 d2 d3 d4 d5)) H := hP
  have hD : va_D A ((h0, .inr (4, [.ref qT, .ref qN, .ref qE, .ref qR, .int 0])) :: (((nw_T cy qT a1 a2 a3 a4 a5 a6 a7 a8 ++ nw_N cy qN b1 b2 b3 b4) ++ nw_E cy qE c1 c2 c3 c4 c5 c6) ++ nw_R cy qR d1 d2 d3 d4 d5)) := hD
  obtain ⟨hPf, hDf⟩ := st_S hP hD
  exact W.vret hx hb hr (fun t ht9 hW => ⟨⟨ad_S h0 qT a1 a2 a3 a4 a5 a6 a7 a8 qN b1 b2 b3 b4 qE c1 c2 c3 c4 c5 c6 qR d1 d2 d3 d4 d5, rfl, rfl, by show va_P D cl_all (wl 52 (ad_S h0 qT a1 a2 a3 a4 a5 a6 a7 a8 qN b1 b2 b3 b4 qE c1 c2 c3 c4 c5 c6 qR d1 d2 d3 d4 d5) (g1 cy (ad_S h0 qT a1 a2 a3 a4 a5 a6 a7 a8 qN b1 b2 b3 b4 qE c1 c2 c3 c4 c5 c6 qR d1 d2 d3 d4 d5) zI)) t.heap; rw [ht9]; exact hPf, by rw [hAe] at hDf; exact hDf⟩, by rw [hAe] at hS; exact hS.F ht9⟩) (by rw [hAe] at hS; exact hS.2.2) d_S_init_53
def ad_M (h0 q1 q2 q3 q4 q5 q6 q7 q8 q9 q10 q11 q12 q13 q14 q15 : Nat) : Nat → Nat := fun k => match k with
  | 0 => h0
  | 1 => q1
  | 2 => q2
  | 3 => q3
  | 4 => q4
  | 5 => q5
  | 6 => q6
  | 7 => q7
  | 8 => q8
  | 9 => q9
  | 10 => q10
  | 11 => q11
  | 12 => q12
  | 13 => q13
  | 14 => q14
  | _ => q15
set_option maxHeartbeats 4000000 in
set_option maxRecDepth 100000 in
theorem st_M {D : va_G} {cy : Nat → ClassId} {h0 q1 q2 q3 q4 q5 q6 q7 q8 q9 q10 q11 q12 q13 q14 q15 : Nat} {A : Nat → Prop} {H : Heap} (hP : va_P D cl_all (nw_M cy h0 q1 q2 q3 q4 q5 q6 q7 q8 q9 q10 q11 q12 q13 q14 q15) H) (hD : va_D A (nw_M cy h0 q1 q2 q3 q4 q5 q6 q7 q8 q9 q10 q11 q12 q13 q14 q15)) : va_P D cl_all (wl 16 (ad_M h0 q1 q2 q3 q4 q5 q6 q7 q8 q9 q10 q11 q12 q13 q14 q15) (g2 cy (ad_M h0 q1 q2 q3 q4 q5 q6 q7 q8 q9 q10 q11 q12 q13 q14 q15) zJ)) H ∧ va_D A (wl 16 (ad_M h0 q1 q2 q3 q4 q5 q6 q7 q8 q9 q10 q11 q12 q13 q14 q15) (g2 cy (ad_M h0 q1 q2 q3 q4 q5 q6 q7 q8 q9 q10 q11 q12 q13 q14 q15) zJ)) := by
  have e : wl 16 (ad_M h0 q1 q2 q3 q4 q5 q6 q7 q8 q9 q10 q11 q12 q13 q14 q15) (g2 cy (ad_M h0 q1 q2 q3 q4 q5 q6 q7 q8 q9 q10 q11 q12 q13 q14 q15) zJ) = nw_M cy h0 q1 q2 q3 q4 q5 q6 q7 q8 q9 q10 q11 q12 q13 q14 q15 := rfl
  rw [e]
  exact ⟨hP, hD⟩
