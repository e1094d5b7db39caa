theorem kw_57 : Cond.classLink RQ_L 7 RQ_S ∈ gt_ws := gt_of 57 (by decide +kernel) (by decide +kernel)
theorem kw_58 : Cond.instantiable RQ_S 5 ∈ gt_ws := gt_of 58 (by decide +kernel) (by decide +kernel)
theorem kw_59 : Cond.methodLink RQ_L 9 y_S_init ∈ gt_ws := gt_of 59 (by decide +kernel) (by decide +kernel)
theorem kw_60 : Cond.instanceMethod y_S_init ∈ gt_ws := gt_of 60 (by decide +kernel) (by decide +kernel)
theorem kw_61 : Cond.code y_S_init c_S_init 1 none ∈ gt_ws := gt_of 61 (by decide +kernel) (by decide +kernel)
theorem kw_522 : Cond.classLink RQ_L 10 RQ_M ∈ gt_ws := gt_of 522 (by decide +kernel) (by decide +kernel)
theorem kw_523 : Cond.instantiable RQ_M 21 ∈ gt_ws := gt_of 523 (by decide +kernel) (by decide +kernel)
theorem kw_524 : Cond.methodLink RQ_L 12 y_M_init ∈ gt_ws := gt_of 524 (by decide +kernel) (by decide +kernel)
theorem kw_525 : Cond.instanceMethod y_M_init ∈ gt_ws := gt_of 525 (by decide +kernel) (by decide +kernel)
theorem kw_526 : Cond.code y_M_init c_M_init 1 none ∈ gt_ws := gt_of 526 (by decide +kernel) (by decide +kernel)
theorem st_Me (cy : Nat → ClassId) (h0 q1 q2 q3 q4 q5 q6 q7 q8 q9 q10 q11 q12 q13 q14 q15 : Nat) : wl 16 (ad_M h0 q1 q2 q3 q4 q5 q6 q7 q8 q9 q10 q11 q12 q13 q14 q15) (g2 cy (ad_M h0 q1 q2 q3 q4 q5 q6 q7 q8 q9 q10 q11 q12 q13 q14 q15) zJ) = nw_M cy h0 q1 q2 q3 q4 q5 q6 q7 q8 q9 q10 q11 q12 q13 q14 q15 := rfl
theorem ky_1 {s : State} {a : Array Value} {t : FieldType} (h : (Cond.arrayClass t).before a s = true) : ∃ c : ClassId, ArrOfT s c t ∧ s.vm.findClass (FieldType.array t).toString = some c := by
  obtain ⟨comp, kC, cc, h1, h2, h3⟩ := Cond.arrayClass_spec h
  exact ⟨comp, fun N z => ⟨(fun k h => by cases h), kC, h2, cc, h3⟩, h1⟩
theorem ky_2 {s : State} {a : Array Value} {t : FieldType} (h : (Cond.arrayOver (.array t)).before a s = true) : ∃ c : ClassId, ArrOfT s c (.array t) ∧ s.vm.findClass ("[" ++ (FieldType.array t).toString) = some c := by
  obtain ⟨comp, c, k, -, h2, h3, h4⟩ := Cond.arrayOver_specA h
  exact ⟨c, fun N z => ⟨(fun k h => by cases h), k, h2, comp, h3⟩, h4⟩
set_option maxHeartbeats 8000000 in
set_option maxRecDepth 100000 in
/-- THE LAW, from its entry, over what is owed of the mirrors -/
theorem whole_start_open {p : Program} {e : Env} {s : State} {m : MethodId} {below : List Frame} {meth : Method} {c : Code} (l : Launch) {b L : Nat} {xs : Nat → Int32} {Inv : gS → gS → Prop} (hI : pu_ok Inv) (hI0 : Inv zI zJ) (hL : L ≤ 2560) (C0 : lw_At p s m meth c b L xs) : W p l e room_1 s m #[Value.ref b] below meth c s.heap [] 0 0 (lw_Z below #[Value.ref b] s) (entryFrame m ([Value.ref b] : List Value).toArray 4) := by
  obtain ⟨hx, hb, hr, hml, hown, hts, hX, hbl, hlocks, hgv⟩ := id C0
  have ht : ∀ w ∈ gt_ws, w.before #[Value.ref b] s = true := fun w h => hts w (gt_lw h)
  have hA : ∀ q : Nat, s.heap.size ≤ q → (fun q : Nat => s.heap.size ≤ q) q := fun _ h => h
  obtain ⟨d0, i0, hKn0⟩ := u_known (C := RQ_E) (T := FQ_E) (N := 7) (n := 7) ht IQ_E (ht _ kw_160)
  obtain ⟨d1, i1, hKn1⟩ := u_known (C := RQ_N) (T := FQ_N) (N := 7) (n := 7) ht IQ_N (ht _ kw_124)
  obtain ⟨d2, i2, hKn2⟩ := u_known (C := RQ_R) (T := FQ_R) (N := 6) (n := 6) ht IQ_R (ht _ kw_192)
  obtain ⟨d3, i3, hKn3⟩ := u_known (C := RQ_T) (T := FQ_T) (N := 10) (n := 10) ht IQ_T (ht _ kw_66)
  obtain ⟨d4, i4, hKn4⟩ := u_known (C := RQ_S) (T := FQ_S) (N := 5) (n := 5) ht IQ_S (ht _ kw_58)
  obtain ⟨d5, i5, hKn5⟩ := u_known (C := RQ_M) (T := FQ_M) (N := 21) (n := 21) ht IQ_M (ht _ kw_523)
  obtain ⟨dC, dI, hKc⟩ : ∃ (dC : Nat → ClassId) (dI : Nat → Nat → Nat), ∀ (k : Nat) (q : vw_C), cl_all[k]? = some q → u_Kn s q.1 q.2.1 q.2.2 (dC k) (dI k) := by
    refine ⟨fun k => match k with | 0 => d0 | 1 => d1 | 2 => d2 | 3 => d3 | 4 => d4 | _ => d5, fun k => match k with | 0 => i0 | 1 => i1 | 2 => i2 | 3 => i3 | 4 => i4 | _ => i5, ?_⟩
    intro k q hq
    match k, hq with
    | 0, hq => cases hq; exact hKn0
    | 1, hq => cases hq; exact hKn1
    | 2, hq => cases hq; exact hKn2
    | 3, hq => cases hq; exact hKn3
    | 4, hq => cases hq; exact hKn4
    | 5, hq => cases hq; exact hKn5
    | k + 6, hq => simp [cl_all] at hq
  obtain ⟨e0, he0, hf0⟩ := ky_1 (ht _ kw_121)
  obtain ⟨e1, he1, hf1⟩ := ky_1 (ht _ kw_122)
  obtain ⟨e2, he2, hf2⟩ := ky_1 (ht _ kw_190)
  have hao1 := (hts (Cond.arrayOver (.array .int)) (List.mem_of_getElem? (i := 72) (by decide +kernel)))
  have hao2 := (hts (Cond.arrayOver (.array .long)) (List.mem_of_getElem? (i := 166) (by decide +kernel)))
  obtain ⟨e3, he3, hf3⟩ := ky_2 hao1
  obtain ⟨e4, he4, hf4⟩ := ky_2 hao2
  obtain ⟨cy, hcy0, hcy1, hcy2, hcy3, hcy4⟩ : ∃ cy : Nat → ClassId, cy 0 = e0 ∧ cy 1 = e1 ∧ cy 2 = e2 ∧ cy 3 = e3 ∧ cy 4 = e4 := ⟨fun k => match k with | 0 => e0 | 1 => e1 | 2 => e2 | 3 => e3 | _ => e4, rfl, rfl, rfl, rfl, rfl⟩
  subst hcy0
  subst hcy1
  subst hcy2
  subst hcy3
  subst hcy4
  obtain ⟨D, hDe⟩ : ∃ D : va_G, D = (dC, dI) := ⟨_, rfl⟩
  have hK : va_K D cl_all (gTy cy) s := by
    rw [hDe]
    refine ⟨hKc, fun k q hq => ?_⟩
    match k, hq with
    | 0, hq => cases hq; exact ⟨he0, hf0⟩
    | 1, hq => cases hq; exact ⟨he1, hf1⟩
    | 2, hq => cases hq; exact ⟨he2, hf2⟩
    | 3, hq => cases hq; exact ⟨he3, hf3⟩
    | 4, hq => cases hq; exact ⟨he4, hf4⟩
    | k + 5, hq => simp [gTy] at hq
  have hNI : nwI s := ⟨ao_any hao1, ao_any hao2⟩
  have hNS : nwS s := ⟨hNI, (va_Nw.of rfl (hts (Cond.methodLinkNest RQ_S 11 y_T_init RQ_S) (List.mem_of_getElem? (i := 67) (by decide +kernel)))), (va_Nw.of rfl (hts (Cond.methodLinkNest RQ_S 18 y_N_init RQ_S) (List.mem_of_getElem? (i := 125) (by decide +kernel)))), (va_Nw.of rfl (hts (Cond.methodLinkNest RQ_S 25 y_E_init RQ_S) (List.mem_of_getElem? (i := 161) (by decide +kernel)))), (va_Nw.of rfl (hts (Cond.methodLinkNest RQ_S 32 y_R_init RQ_S) (List.mem_of_getElem? (i := 193) (by decide +kernel))))⟩
  have hNC : nwC s := ⟨(va_Nw.of rfl (hts (Cond.methodLinkNest RQ_T 56 y_S_slotOf RQ_S) (List.mem_of_getElem? (i := 251) (by decide +kernel)))), (va_Nw.of rfl (hts (Cond.methodLinkNest RQ_N 87 y_S_slotOf RQ_S) (List.mem_of_getElem? (i := 363) (by decide +kernel))))⟩
  have hS : va_S (fun q : Nat => s.heap.size ≤ q) s.heap s.heap [] := va_S.rf
  have hP : va_P D cl_all [] s.heap := fun k q h => by simp at h
  have hD : va_D (fun q : Nat => s.heap.size ≤ q) [] := ⟨fun i j p q h => by simp at h, fun k q h => by simp at h⟩
  have hl := lv_entry ([.ref b]) (n := 4) (Nat.le_of_ble_eq_true rfl)
  rw [lg_entry_eq]
  generalize (lg_sl ([.ref b]) ++ List.replicate (4 - (lg_sl ([.ref b])).length) Slot.unset).toArray = ls at hl ⊢
  have hl : lv_has ls 4 [(0, .ref b)] := hl
  refine va_new (ci := 4) (fs := [.null, .null, .null, .null, .int 0]) (C := RQ_S) (T := FQ_S) (N := 5) hx hb ht IQ_S TQ_S TQ_S_ok hown (ht _ kw_57) (ht _ kw_58) (ht _ kw_47) hK hP hD hS hA rfl (fun j hj => by match j, hj with | 0, _ => rfl | 1, _ => rfl | 2, _ => rfl | 3, _ => rfl | 4, _ => rfl | j + 5, h => exact absurd h (by omega)) (Nat.le_of_ble_eq_true rfl) (Nat.le_of_ble_eq_true rfl) d_law_0 (fun q0v H hP hD hS => ?_)
  have hP : va_P D cl_all (([] : va_W) ++ [(q0v, .inr (4, [.null, .null, .null, .null, .int 0]))]) H := hP
  have hD : va_D (fun q : Nat => s.heap.size ≤ q) (([] : va_W) ++ [(q0v, .inr (4, [.null, .null, .null, .null, .int 0]))]) := hD
  refine W.widen (k := 1) (n := 5) (by omega) (by omega) ?_
  refine lv_dup hx hb d_law_3 rfl ?_
  have hFc := fr_A hD hS hA
  refine va_callv (va_runI (As := []) (rest := [.ref q0v]) ⟨hx, hb, hml, hown, ht⟩ (m_S_init l D cy q0v H.size) ⟨callB_of 0 ht (gt_in (fun _ h9 => h9) kw_61) rfl rfl rfl (ht _ kw_47) (ht _ kw_59) (by decide +kernel) ⟨Nat.le_of_ble_eq_true rfl, Nat.le_of_ble_eq_true rfl⟩, rfl, ht _ kw_60⟩ ⟨fun a U g mk q => by obtain ⟨q0, q1, qP, qK, qN, qD⟩ := q; exact ⟨q0, q1, qP, va_K.moved (u := U) (U := U.calling g mk a) (Vm.Alike.refl U.vm) qK, nwS_ok.2 U _ rfl qN, qD⟩, fun U hU hW => ⟨rfl, by rw [hU], by rw [hU]; exact fr_r hP, va_K.moved hW.alike hK, nwS_ok.1 s U hW hNS, (fr_rD hD).weaken (fun _ _ _ _ => trivial)⟩⟩ rfl rfl hl.1 rfl (lv_room (Nat.le_of_ble_eq_true rfl)) d_law_4 ⟨Nat.le_of_ble_eq_true rfl, Nat.le_of_ble_eq_true rfl⟩) hS (fun q _ h => hFc q h) hFc (fun u t H1 locs ht9 hvm hw hB hz1 hk1 hS => ?_)
  obtain ⟨ad1, rfl⟩ : ∃ z, z = u := ⟨_, rfl⟩
  obtain ⟨hP1, hD1⟩ := hB
  rw [ht9] at hP1
  obtain ⟨hP, hD⟩ := fr_join hP hD hk1 hFc hP1 hD1
  generalize H1 = H at hP hS ⊢
  have hP : va_P D cl_all (wl 52 ad1 (g1 cy ad1 zI)) H := hP
  have hD : va_D (fun q : Nat => s.heap.size ≤ q) (wl 52 ad1 (g1 cy ad1 zI)) := hD
  rw [← hw]
  refine W.widen (k := 52) (n := 485) (by omega) (by omega) ?_
  refine lv_astore_n (lv' := [(1, .ref (ad1 0)), (0, .ref b)]) hx hb d_law_7 rfl hl (by decide) rfl (fun ls hl => ?_)
  refine va_new (ci := 5) (fs := [.null, .null, .null, .null, .null, .null, .int 0, .null, .null, .null, .null, .int 0, .null, .int 0, .null, .int 0, .null, .null, .null, .long 0, .long 0]) (C := RQ_M) (T := FQ_M) (N := 21) hx hb ht IQ_M TQ_M TQ_M_ok hown (ht _ kw_522) (ht _ kw_523) (ht _ kw_52) hK hP hD hS hA rfl (fun j hj => by match j, hj with | 0, _ => rfl | 1, _ => rfl | 2, _ => rfl | 3, _ => rfl | 4, _ => rfl | 5, _ => rfl | 6, _ => rfl | 7, _ => rfl | 8, _ => rfl | 9, _ => rfl | 10, _ => rfl | 11, _ => rfl | 12, _ => rfl | 13, _ => rfl | 14, _ => rfl | 15, _ => rfl | 16, _ => rfl | 17, _ => rfl | 18, _ => rfl | 19, _ => rfl | 20, _ => rfl | j + 21, h => exact absurd h (by omega)) (Nat.le_of_ble_eq_true rfl) (Nat.le_of_ble_eq_true rfl) d_law_8 (fun q1v H hP hD hS => ?_)
  refine W.widen (k := 53) (n := 506) (by omega) (by omega) ?_
  refine lv_dup hx hb d_law_11 rfl ?_
  have hFc := fr_A hD hS hA
  refine va_callv (va_runI (As := []) (rest := [.ref q1v]) ⟨hx, hb, hml, hown, ht⟩ (m_M_init l D cy q1v H.size) ⟨callB_of 0 ht (gt_in (fun _ h9 => h9) kw_526) rfl rfl rfl (ht _ kw_52) (ht _ kw_524) (by decide +kernel) ⟨Nat.le_of_ble_eq_true rfl, Nat.le_of_ble_eq_true rfl⟩, rfl, ht _ kw_525⟩ ⟨fun a U g mk q => by obtain ⟨q0, q1, qP, qK, qN, qD⟩ := q; exact ⟨q0, q1, qP, va_K.moved (u := U) (U := U.calling g mk a) (Vm.Alike.refl U.vm) qK, nwI_ok.2 U _ rfl qN, qD⟩, fun U hU hW => ⟨rfl, by rw [hU], by rw [hU]; exact fr_r hP, va_K.moved hW.alike hK, nwI_ok.1 s U hW hNI, (fr_rD hD).weaken (fun _ _ _ _ => trivial)⟩⟩ rfl rfl hl.1 rfl (lv_room (Nat.le_of_ble_eq_true rfl)) d_law_12 ⟨Nat.le_of_ble_eq_true rfl, Nat.le_of_ble_eq_true rfl⟩) hS (fun q _ h => hFc q h) hFc (fun u t H1 locs ht9 hvm hw hB hz1 hk1 hS => ?_)
  obtain ⟨q1, q2, q3, q4, q5, q6, q7, q8, q9, q10, q11, q12, q13, q14, q15⟩ := u
  obtain ⟨hP1, hD1⟩ := hB
  rw [ht9] at hP1
  obtain ⟨hP, hD⟩ := fr_join hP hD hk1 hFc hP1 hD1
  generalize H1 = H at hP hS ⊢
  rw [← st_Me cy q1v q1 q2 q3 q4 q5 q6 q7 q8 q9 q10 q11 q12 q13 q14 q15] at hP hD
  obtain ⟨ad2, had2⟩ : ∃ z, z = ad_M q1v q1 q2 q3 q4 q5 q6 q7 q8 q9 q10 q11 q12 q13 q14 q15 := ⟨_, rfl⟩
  have hq1 : q1v = ad2 0 := by rw [had2]; rfl
  rw [← had2] at hP hD
  rw [hq1]
  refine W.widen (k := 68) (n := 846) (by omega) (by omega) ?_
  refine lv_astore_n (lv' := [(2, .ref (ad2 0)), (1, .ref (ad1 0)), (0, .ref b)]) hx hb d_law_15 rfl hl (by decide) rfl (fun ls hl => ?_)
  refine lv_iconst (v := 0) hx hb d_law_16 (by decide) ?_
  refine lv_istore_n (lv' := [(3, .int 0), (2, .ref (ad2 0)), (1, .ref (ad1 0)), (0, .ref b)]) hx hb d_law_17 rfl hl (by decide) rfl (fun ls hl => ?_)
  have hX12 : ∀ i j, i < 52 → j < 16 → ad1 i ≠ ad2 j := fun i j hi hj e9 => by
    have a1 : (wl 52 ad1 (g1 cy ad1 zI) ++ wl 16 ad2 (g2 cy ad2 zJ))[i]? = some (ad1 i, g1 cy ad1 zI i) := by rw [List.getElem?_append_left (by rw [wl_len]; exact hi)]; exact wl_get hi
    have a2 : (wl 52 ad1 (g1 cy ad1 zI) ++ wl 16 ad2 (g2 cy ad2 zJ))[52 + j]? = some (ad2 j, g2 cy ad2 zJ j) := by rw [List.getElem?_append_right (by rw [wl_len]; omega), wl_len, Nat.add_sub_cancel_left]; exact wl_get hj
    have := hD.1 _ _ _ _ a1 a2 e9
    omega
  exact law_loop hI hL C0 hK hNC (fun _ => wl_D (fr_lD hD)) (fun _ => wl_D (fr_rD hD)) hX12 (L + 1) 0 0 zI zJ (Nat.zero_le L) (by omega) nI_0.symm hI0 _ _ _ (fr_l hP) (fr_r hP) hS (lv_sub hl [3, 2, 1, 0] rfl)
