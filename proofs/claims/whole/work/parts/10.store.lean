/-! Rows over a store: the cells of a thing whose shape is fixed, by number; ad: their addresses, g: what they hold -/
def wl (n : Nat) (ad : Nat → Nat) (g : Nat → va_E) : va_W := (List.range n).map (fun k => (ad k, g k))
theorem wl_get {n : Nat} {ad : Nat → Nat} {g : Nat → va_E} {k : Nat} (h : k < n) : (wl n ad g)[k]? = some (ad k, g k) := by
  simp [wl, h]
theorem wl_at {n : Nat} {ad : Nat → Nat} {g : Nat → va_E} {k : Nat} {q : Nat × va_E} (h : (wl n ad g)[k]? = some q) : k < n ∧ q = (ad k, g k) := by
  by_cases hk : k < n
  · rw [wl_get hk] at h
    exact ⟨hk, (Option.some.inj h).symm⟩
  · have : (wl n ad g)[k]? = none := by simp [wl]; omega
    rw [this] at h
    cases h
theorem wl_len (n : Nat) (ad : Nat → Nat) (g : Nat → va_E) : (wl n ad g).length = n := by simp [wl]
theorem wl_none {n : Nat} {ad : Nat → Nat} {g : Nat → va_E} {k : Nat} (h : ¬ k < n) : (wl n ad g)[k]? = none := List.getElem?_eq_none (by rw [wl_len]; omega)
theorem wl_set {n : Nat} {ad : Nat → Nat} {g : Nat → va_E} {k : Nat} {x : va_E} (hk : k < n) : (wl n ad g).set k (ad k, x) = wl n ad (va_up g k x) := by
  apply List.ext_getElem?
  intro i
  rw [List.getElem?_set, wl_len]
  by_cases hi : i < n
  · rw [wl_get (g := va_up g k x) hi]
    by_cases hki : k = i
    · subst hki
      rw [if_pos rfl, if_pos hk]
      simp [va_up]
    · rw [if_neg hki, wl_get hi]
      simp [va_up, Ne.symm hki]
  · rw [wl_none hi, if_neg (by omega), wl_none hi]
theorem wl_congr {n : Nat} {ad : Nat → Nat} {g h : Nat → va_E} (q : ∀ k, k < n → g k = h k) : wl n ad g = wl n ad h := by
  apply List.ext_getElem?
  intro i
  by_cases hi : i < n
  · rw [wl_get hi, wl_get hi, q i hi]
  · rw [wl_none hi, wl_none hi]
theorem wl_D {A : Nat → Prop} {n : Nat} {ad : Nat → Nat} {g h : Nat → va_E} (hD : va_D A (wl n ad g)) : va_D A (wl n ad h) := by
  refine ⟨fun i j p q hp hq e => ?_, fun k q hk => ?_⟩
  · obtain ⟨hi, rfl⟩ := wl_at hp
    obtain ⟨hj, rfl⟩ := wl_at hq
    exact hD.1 i j (ad i, g i) (ad j, g j) (wl_get hi) (wl_get hj) e
  · obtain ⟨hi, rfl⟩ := wl_at hk
    exact hD.2 k (ad k, g k) (wl_get hi)
theorem wl_A {A : Nat → Prop} {n : Nat} {ad : Nat → Nat} {g h : Nat → va_E} {H0 H : Heap} {locs : List Loc} (hD : va_D A (wl n ad g)) (hS : va_S A H0 H locs) (hA : ∀ q, H0.size ≤ q → A q) : ∀ q, va_A (wl n ad h) H.size q → A q := by
  intro q hq
  rcases hq with ⟨k, x, hk⟩ | hq
  · obtain ⟨hi, e⟩ := wl_at hk
    have : q = ad k := congrArg Prod.fst e
    subst this
    exact hD.2 k (ad k, g k) (wl_get hi)
  · exact hA q (Nat.le_trans hS.1 hq)
/-- the numbers of a store: whole numbers, long ones, rows of them -/
abbrev gS : Type := (Nat → Int32) × (Nat → Int64) × (Nat → Nat → Int32) × (Nat → Nat → Int64)
def s_i (z : gS) (k : Nat) (x : Int32) : gS := (va_up z.1 k x, z.2)
def s_l (z : gS) (k : Nat) (x : Int64) : gS := (z.1, va_up z.2.1 k x, z.2.2)
def s_I (z : gS) (k : Nat) (h : Nat → Int32) : gS := (z.1, z.2.1, va_up z.2.2.1 k h, z.2.2.2)
def s_J (z : gS) (k : Nat) (h : Nat → Int64) : gS := (z.1, z.2.1, z.2.2.1, va_up z.2.2.2 k h)
/-- the cells out of the numbers: kd their kinds (1 int, 2 boolean, 3 long; else as ob says), ln their lengths -/
def gE (kd ln : Nat → Nat) (cy : Nat → ClassId) (ob : (Nat → Int32) → (Nat → Int64) → Nat → va_E) (z : gS) (k : Nat) : va_E := if kd k = 1 then .inl (cy 0, ln k, .inl (z.2.2.1 k)) else if kd k = 2 then .inl (cy 1, ln k, .inl (z.2.2.1 k)) else if kd k = 3 then .inl (cy 2, ln k, .inr (.inl (z.2.2.2 k))) else ob z.1 z.2.1 k
abbrev gTy (cy : Nat → ClassId) : List (ClassId × FieldType) := [(cy 0, .int), (cy 1, .boolean), (cy 2, .long), (cy 3, .array .int), (cy 4, .array .long)]
section GE
variable {kd ln : Nat → Nat} {cy : Nat → ClassId} {ob : (Nat → Int32) → (Nat → Int64) → Nat → va_E} {z : gS} {k : Nat}
theorem gE_1 (h : kd k = 1) : gE kd ln cy ob z k = .inl (cy 0, ln k, .inl (z.2.2.1 k)) := by unfold gE; rw [if_pos h]
theorem gE_2 (h : kd k = 2) : gE kd ln cy ob z k = .inl (cy 1, ln k, .inl (z.2.2.1 k)) := by unfold gE; rw [if_neg (by omega), if_pos h]
theorem gE_3 (h : kd k = 3) : gE kd ln cy ob z k = .inl (cy 2, ln k, .inr (.inl (z.2.2.2 k))) := by unfold gE; rw [if_neg (by omega), if_neg (by omega), if_pos h]
theorem gE_0 (h : kd k = 0) : gE kd ln cy ob z k = ob z.1 z.2.1 k := by unfold gE; rw [if_neg (by omega), if_neg (by omega), if_neg (by omega)]
theorem gE_u1 (h : kd k = 1) {f : Nat → Int32} : va_up (gE kd ln cy ob z) k (.inl (cy 0, ln k, .inl f)) = gE kd ln cy ob (s_I z k f) := by
  funext j
  by_cases e : j = k
  · subst e
    rw [gE_1 h]
    simp [va_up, s_I]
  · unfold gE
    simp [va_up, e, s_I]
theorem gE_u2 (h : kd k = 2) {f : Nat → Int32} : va_up (gE kd ln cy ob z) k (.inl (cy 1, ln k, .inl f)) = gE kd ln cy ob (s_I z k f) := by
  funext j
  by_cases e : j = k
  · subst e
    rw [gE_2 h]
    simp [va_up, s_I]
  · unfold gE
    simp [va_up, e, s_I]
theorem gE_u3 (h : kd k = 3) {f : Nat → Int64} : va_up (gE kd ln cy ob z) k (.inl (cy 2, ln k, .inr (.inl f))) = gE kd ln cy ob (s_J z k f) := by
  funext j
  by_cases e : j = k
  · subst e
    rw [gE_3 h]
    simp [va_up, s_J]
  · unfold gE
    simp [va_up, e, s_J]
theorem gE_ui (h : kd k = 0) {v : va_E} {j0 : Nat} {x : Int32} (hob : ∀ j, va_up (ob z.1 z.2.1) k v j = ob (va_up z.1 j0 x) z.2.1 j) : va_up (gE kd ln cy ob z) k v = gE kd ln cy ob (s_i z j0 x) := by
  funext j
  have q := hob j
  by_cases e : j = k
  · subst e
    rw [gE_0 h]
    simpa [va_up, s_i] using q
  · unfold gE
    simp only [va_up, e, if_false, s_i] at q ⊢
    rw [q]
theorem gE_ul (h : kd k = 0) {v : va_E} {j0 : Nat} {x : Int64} (hob : ∀ j, va_up (ob z.1 z.2.1) k v j = ob z.1 (va_up z.2.1 j0 x) j) : va_up (gE kd ln cy ob z) k v = gE kd ln cy ob (s_l z j0 x) := by
  funext j
  have q := hob j
  by_cases e : j = k
  · subst e
    rw [gE_0 h]
    simpa [va_up, s_l] using q
  · unfold gE
    simp only [va_up, e, if_false, s_l] at q ⊢
    rw [q]
end GE
/-! checks of a mirror: what it tells where it answers -/
theorem op_chk {α : Type} {c : Prop} [Decidable c] {x : Option α} {y : α} (h : (if c then none else x) = some y) : ¬ c ∧ x = some y := by
  by_cases hc : c
  · rw [if_pos hc] at h; cases h
  · rw [if_neg hc] at h; exact ⟨hc, h⟩
theorem op_bnd {α β : Type} {x : Option α} {f : α → Option β} {y : β} (h : x.bind f = some y) : ∃ a, x = some a ∧ f a = some y := Option.bind_eq_some_iff.mp h
theorem op_pos {α : Type} {c : Prop} [Decidable c] {x y : Option α} {z : α} (h : (if c then x else y) = some z) (hc : c) : x = some z := by rw [if_pos hc] at h; exact h
theorem op_neg {α : Type} {c : Prop} [Decidable c] {x y : Option α} {z : α} (h : (if c then x else y) = some z) (hc : ¬ c) : y = some z := by rw [if_neg hc] at h; exact h
/-! a method's start and end over a store -/
abbrev sPc (D : va_G) (cl : List vw_C) (tys : List (ClassId × FieldType)) (nw : State → Prop) (n : Nat) (ad : Nat → Nat) (g : Nat → va_E) (sz : Nat) (av : List Value) : Array Value → State → Prop := va_Pc av (fun U => U.heap.size = sz ∧ va_P D cl (wl n ad g) U.heap ∧ va_K D cl tys U ∧ nw U ∧ va_D (fun _ => True) (wl n ad g))
abbrev sQi (D : va_G) (cl : List vw_C) (n : Nat) (ad : Nat → Nat) (g : Nat → va_E) (sz : Nat) (r : Int32) (g' : Nat → va_E) : Array Value → State → Outcome → State → Prop := va_Qi (fun x (_ : Unit) => x = r) (fun _ t => va_P D cl (wl n ad g') t.heap) (va_A (wl n ad g) sz)
abbrev sQl (D : va_G) (cl : List vw_C) (n : Nat) (ad : Nat → Nat) (g : Nat → va_E) (sz : Nat) (r : Int64) (g' : Nat → va_E) : Array Value → State → Outcome → State → Prop := va_Ql (fun x (_ : Unit) => x = r) (fun _ t => va_P D cl (wl n ad g') t.heap) (va_A (wl n ad g) sz)
abbrev sQv (D : va_G) (cl : List vw_C) (n : Nat) (ad : Nat → Nat) (g : Nat → va_E) (sz : Nat) (g' : Nat → va_E) : Array Value → State → Outcome → State → Prop := va_Qv (fun (_ : Unit) => True) (fun _ t => va_P D cl (wl n ad g') t.heap) (va_A (wl n ad g) sz)
/-- what of the start lasts: words of nest mates -/
def nwOk (nw : State → Prop) : Prop := (∀ s U : State, s.WarmedH U.vm → nw s → nw U) ∧ ∀ s U : State, s.vm = U.vm → nw s → nw U
section WX
variable {p : Program} {l : Launch} {e : Env} {R : Room} {s : State} {m : MethodId} {args : Array Value} {below : List Frame} {meth : Method} {c : Code} {H : Heap} {locs : List Loc} {cells slots : Nat} {Q : State → Prop}
variable {cc : ByteArray} {pc : Nat} {ls : Array Slot} {rest : List Value} {D : va_G} {cl : List vw_C} {A : Nat → Prop} {tys : List (ClassId × FieldType)} {H0 : Heap} {n : Nat} {ad : Nat → Nat} {g : Nat → va_E}
theorem wx_get (hexec : p.tables.exec = Jvm.exec) (hb : c.code = cc) {own ref C : String} {T : u_T} {N ci index : Nat} {Ts : List Cond} (hts : ∀ w ∈ Ts, w.before args s = true) (hin : ∀ w ∈ u_ws C T N, w ∈ Ts) (hown : s.vm.findClass own = some m.cls) (hK : va_K D cl tys s) (hP : va_P D cl (wl n ad g) H) (q : Nat) (hq : q < n) {fs : List Value} (he : g q = .inr (ci, fs)) (hc : cl[ci]? = some (C, T, N)) (k : Nat) (hk : k < N) (hlink : (Cond.fieldLink own index ref (T k).2.1 (T k).2.2.1).before args s = true) (hsame : ∀ x, s.fieldFound? (T k).1 (T k).2.1 (T k).2.2.1 = some x → s.fieldFound? ref (T k).2.1 (T k).2.2.1 = some x) {v : Value} (hv : fs[k]? = some v) (hdg : decode cc pc = .ok (.getfield index, 3))
    (kk : W p l e R s m args below meth c H locs cells slots Q (F0 m (pc + 3) ls (v :: rest))) : W p l e R s m args below meth c H locs cells slots Q (F0 m pc ls (.ref (ad q) :: rest)) := va_get hexec hb hts hin hown hK hP q (by rw [wl_get hq, he]) hc k hk hlink hsame hv hdg kk
theorem wx_put (hexec : p.tables.exec = Jvm.exec) (hb : c.code = cc) {own ref C : String} {T : u_T} {N ci index : Nat} {Ts : List Cond} (hts : ∀ w ∈ Ts, w.before args s = true) (hin : ∀ w ∈ u_ws C T N, w ∈ Ts) (ty0 : Nat → FieldType) (hty : ∀ k, k < N → parseFieldDescriptor (T k).2.2.1 = some (ty0 k)) (hnm : ∀ a, a < N → ∀ b, b < N → a ≠ b → (T a).2.1 ≠ (T b).2.1) (hown : s.vm.findClass own = some m.cls) (hK : va_K D cl tys s) (hP : va_P D cl (wl n ad g) H) (hD : va_D A (wl n ad g)) (hS0 : va_S A H0 H locs) (q : Nat) (hq : q < n) {fs : List Value} (he : g q = .inr (ci, fs)) (hc : cl[ci]? = some (C, T, N)) (k : Nat) (hk : k < N) (hlink : (Cond.fieldLink own index ref (T k).2.1 (T k).2.2.1).before args s = true) (hsame : ∀ x, s.fieldFound? (T k).1 (T k).2.1 (T k).2.2.1 = some x → s.fieldFound? ref (T k).2.1 (T k).2.2.1 = some x) (hfin : (T k).2.2.2 = false) {ty : FieldType} {v : Value} (hd : parseFieldDescriptor (T k).2.2.1 = some ty) (hn : narrow ty v = v) (hfit : fits ty v = true) (hl : k < fs.length) (hdg : decode cc pc = .ok (.putfield index, 3)) {g' : Nat → va_E} (hg' : va_up g q (.inr (ci, fs.set k v)) = g')
    (kk : ∀ (H1 : Heap) (locs1 : List Loc), va_P D cl (wl n ad g') H1 → va_S A H0 H1 locs1 → W p l e R s m args below meth c H1 locs1 cells slots Q (F0 m (pc + 3) ls rest)) : W p l e R s m args below meth c H locs cells slots Q (F0 m pc ls (v :: .ref (ad q) :: rest)) := by
  subst hg'
  refine va_put hexec hb hts hin ty0 hty hnm hown hK hP hD hS0 q (by rw [wl_get hq, he]) hc k hk hlink hsame hfin hd hn hfit hl hdg (fun H1 locs1 h1 _ h3 => ?_)
  rw [wl_set hq] at h1
  exact kk H1 locs1 h1 h3
variable {kd ln : Nat → Nat} {cy : Nat → ClassId} {ob : (Nat → Int32) → (Nat → Int64) → Nat → va_E} {z : gS}
theorem wx_iald (hexec : p.tables.exec = Jvm.exec) (hb : c.code = cc) (hK : va_K D cl (gTy cy) s) (hP : va_P D cl (wl n ad (gE kd ln cy ob z)) H) (k : Nat) (hk : k < n) (hkd : kd k = 1) (N : Nat) (hN : ln k = N) {i : Int32} (hin : vp_in i N) (hdg : decode cc pc = .ok (.iaload, 1))
    (kk : W p l e R s m args below meth c H locs cells slots Q (F0 m (pc + 1) ls (.int (z.2.2.1 k i.toNatClampNeg) :: rest))) : W p l e R s m args below meth c H locs cells slots Q (F0 m pc ls (.int i :: .ref (ad k) :: rest)) := va_iald hexec hb hK hP k 0 (by rw [wl_get hk, gE_1 hkd, hN]) rfl hin hdg kk
theorem wx_zald (hexec : p.tables.exec = Jvm.exec) (hb : c.code = cc) (hK : va_K D cl (gTy cy) s) (hP : va_P D cl (wl n ad (gE kd ln cy ob z)) H) (k : Nat) (hk : k < n) (hkd : kd k = 2) (N : Nat) (hN : ln k = N) {i : Int32} (hin : vp_in i N) (hdg : decode cc pc = .ok (.baload, 1))
    (kk : W p l e R s m args below meth c H locs cells slots Q (F0 m (pc + 1) ls (.int (z.2.2.1 k i.toNatClampNeg) :: rest))) : W p l e R s m args below meth c H locs cells slots Q (F0 m pc ls (.int i :: .ref (ad k) :: rest)) := va_zald hexec hb hK hP k 1 (by rw [wl_get hk, gE_2 hkd, hN]) rfl hin hdg kk
theorem wx_lald (hexec : p.tables.exec = Jvm.exec) (hb : c.code = cc) (hK : va_K D cl (gTy cy) s) (hP : va_P D cl (wl n ad (gE kd ln cy ob z)) H) (k : Nat) (hk : k < n) (hkd : kd k = 3) (N : Nat) (hN : ln k = N) {i : Int32} (hin : vp_in i N) (hdg : decode cc pc = .ok (.laload, 1))
    (kk : W p l e R s m args below meth c H locs cells slots Q (F0 m (pc + 1) ls (.long (z.2.2.2 k i.toNatClampNeg) :: rest))) : W p l e R s m args below meth c H locs cells slots Q (F0 m pc ls (.int i :: .ref (ad k) :: rest)) := va_lald hexec hb hK hP k 2 (by rw [wl_get hk, gE_3 hkd, hN]) rfl hin hdg kk
theorem wx_iast (hexec : p.tables.exec = Jvm.exec) (hb : c.code = cc) (hK : va_K D cl (gTy cy) s) (hP : va_P D cl (wl n ad (gE kd ln cy ob z)) H) (hD : va_D A (wl n ad (gE kd ln cy ob z))) (hS : va_S A H0 H locs) (k : Nat) (hk : k < n) (hkd : kd k = 1) (N : Nat) (hN : ln k = N) {i x : Int32} (hin : vp_in i N) (hdg : decode cc pc = .ok (.iastore, 1))
    (kk : ∀ (H1 : Heap) (locs1 : List Loc), va_P D cl (wl n ad (gE kd ln cy ob (s_I z k (upd (z.2.2.1 k) i.toNatClampNeg x)))) H1 → va_S A H0 H1 locs1 → W p l e R s m args below meth c H1 locs1 cells slots Q (F0 m (pc + 1) ls rest)) : W p l e R s m args below meth c H locs cells slots Q (F0 m pc ls (.int x :: .int i :: .ref (ad k) :: rest)) := by
  refine va_iast hexec hb hK hP hD hS k 0 (by rw [wl_get hk, gE_1 hkd]) rfl (by rw [hN]; exact hin) hdg (fun H1 locs1 h1 _ h3 => ?_)
  rw [wl_set hk, gE_u1 hkd] at h1
  exact kk H1 locs1 h1 h3
theorem wx_zast (hexec : p.tables.exec = Jvm.exec) (hb : c.code = cc) (hK : va_K D cl (gTy cy) s) (hP : va_P D cl (wl n ad (gE kd ln cy ob z)) H) (hD : va_D A (wl n ad (gE kd ln cy ob z))) (hS : va_S A H0 H locs) (k : Nat) (hk : k < n) (hkd : kd k = 2) (N : Nat) (hN : ln k = N) {i x : Int32} (hin : vp_in i N) (hdg : decode cc pc = .ok (.bastore, 1))
    (kk : ∀ (H1 : Heap) (locs1 : List Loc), va_P D cl (wl n ad (gE kd ln cy ob (s_I z k (upd (z.2.2.1 k) i.toNatClampNeg (vp_nar .boolean x))))) H1 → va_S A H0 H1 locs1 → W p l e R s m args below meth c H1 locs1 cells slots Q (F0 m (pc + 1) ls rest)) : W p l e R s m args below meth c H locs cells slots Q (F0 m pc ls (.int x :: .int i :: .ref (ad k) :: rest)) := by
  refine va_zast hexec hb hK hP hD hS k 1 (by rw [wl_get hk, gE_2 hkd]) rfl (by rw [hN]; exact hin) hdg (fun H1 locs1 h1 _ h3 => ?_)
  rw [wl_set hk, gE_u2 hkd] at h1
  exact kk H1 locs1 h1 h3
theorem wx_last (hexec : p.tables.exec = Jvm.exec) (hb : c.code = cc) (hK : va_K D cl (gTy cy) s) (hP : va_P D cl (wl n ad (gE kd ln cy ob z)) H) (hD : va_D A (wl n ad (gE kd ln cy ob z))) (hS : va_S A H0 H locs) (k : Nat) (hk : k < n) (hkd : kd k = 3) (N : Nat) (hN : ln k = N) {i : Int32} {x : Int64} (hin : vp_in i N) (hdg : decode cc pc = .ok (.lastore, 1))
    (kk : ∀ (H1 : Heap) (locs1 : List Loc), va_P D cl (wl n ad (gE kd ln cy ob (s_J z k (vp_updL (z.2.2.2 k) i.toNatClampNeg x)))) H1 → va_S A H0 H1 locs1 → W p l e R s m args below meth c H1 locs1 cells slots Q (F0 m (pc + 1) ls rest)) : W p l e R s m args below meth c H locs cells slots Q (F0 m pc ls (.long x :: .int i :: .ref (ad k) :: rest)) := by
  refine va_last hexec hb hK hP hD hS k 2 (by rw [wl_get hk, gE_3 hkd]) rfl (by rw [hN]; exact hin) hdg (fun H1 locs1 h1 _ h3 => ?_)
  rw [wl_set hk, gE_u3 hkd] at h1
  exact kk H1 locs1 h1 h3
/-- the length of a row of ints, of longs -/
theorem wx_leni (hexec : p.tables.exec = Jvm.exec) (hb : c.code = cc) (hK : va_K D cl (gTy cy) s) (hP : va_P D cl (wl n ad (gE kd ln cy ob z)) H) (k : Nat) (hk : k < n) (hkd : kd k = 1) {v : Int32} (hv : Int32.ofNat (ln k) = v) (hdg : decode cc pc = .ok (.arraylength, 1))
    (kk : W p l e R s m args below meth c H locs cells slots Q (F0 m (pc + 1) ls (.int v :: rest))) : W p l e R s m args below meth c H locs cells slots Q (F0 m pc ls (.ref (ad k) :: rest)) := va_alen hexec hb hK hP k 0 (by rw [wl_get hk, gE_1 hkd]) rfl hv hdg kk
theorem wx_lenl (hexec : p.tables.exec = Jvm.exec) (hb : c.code = cc) (hK : va_K D cl (gTy cy) s) (hP : va_P D cl (wl n ad (gE kd ln cy ob z)) H) (k : Nat) (hk : k < n) (hkd : kd k = 3) {v : Int32} (hv : Int32.ofNat (ln k) = v) (hdg : decode cc pc = .ok (.arraylength, 1))
    (kk : W p l e R s m args below meth c H locs cells slots Q (F0 m (pc + 1) ls (.int v :: rest))) : W p l e R s m args below meth c H locs cells slots Q (F0 m pc ls (.ref (ad k) :: rest)) := va_alen hexec hb hK hP k 2 (by rw [wl_get hk, gE_3 hkd]) rfl hv hdg kk
/-- a row out of an array of rows -/
theorem wx_aald (hexec : p.tables.exec = Jvm.exec) (hb : c.code = cc) (hK : va_K D cl tys s) (hP : va_P D cl (wl n ad g) H) (k t0 : Nat) (hk : k < n) {cA : ClassId} {ty : FieldType} {N : Nat} {f : Nat → Option Nat} (hg : g k = .inl (cA, N, .inr (.inr (.inr (.inr f))))) (ht : tys[t0]? = some (cA, .array ty)) {i : Int32} (hin : vp_in i N) {b : Nat} (hf : f i.toNatClampNeg = some b) (hdg : decode cc pc = .ok (.aaload, 1))
    (kk : W p l e R s m args below meth c H locs cells slots Q (F0 m (pc + 1) ls (.ref b :: rest))) : W p l e R s m args below meth c H locs cells slots Q (F0 m pc ls (.int i :: .ref (ad k) :: rest)) := by
  have hlt : i.toNatClampNeg < N := Nat.not_le.mp fun q => hin (Or.inr q)
  have ha : (wl n ad g)[k]? = some (ad k, .inl (cA, N, .inr (.inr (.inr (.inr f))))) := by rw [wl_get hk, hg]
  refine W.aald (v := va_rf (f i.toNatClampNeg)) (ty := .array ty) hexec hb (hP k _ ha) ((hK.2 t0 _ ht).1 N (fun j => va_rf (f j))) rfl (fun q => by cases q) (by show ¬ (i < 0 ∨ (arrV _ _ _).slots.size ≤ _); rw [arrV_size]; exact hin) (by show (arrV _ _ _).slots[_]? = _; rw [arrV_read _ _ hlt]) rfl rfl hdg ?_
  rw [hf]
  exact kk
end WX
