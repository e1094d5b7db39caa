/-! Making arrays over a store's kinds: each new row has the kind's own number cy -/
def vr_row (q N : Nat) (x : va_E) : va_W := (List.range N).map (fun i => (q + 1 + i, x))
theorem vr_at {q N : Nat} {x : va_E} {k : Nat} {y : Nat × va_E} (h : (vr_row q N x)[k]? = some y) : k < N ∧ y = (q + 1 + k, x) := by
  unfold vr_row at h
  rw [List.getElem?_map] at h
  by_cases hk : k < N
  · rw [List.getElem?_range hk] at h
    exact ⟨hk, (Option.some.inj h).symm⟩
  · have : (List.range N)[k]? = none := List.getElem?_eq_none (by rw [List.length_range]; omega)
    rw [this] at h
    cases h
theorem vr_outer (c : ClassId) (N h0 : Nat) : ∀ i : Nat, Jvm.Free.Multi.outerC c N h0 i = arrV c N (fun j => va_rf (if j < i then some (h0 + 1 + j) else none))
  | 0 => by
    show ({ cls := c, slots := Array.replicate N .null, vm := .none } : Cell) = _
    rw [arrV_new]
    refine congrArg (arrV c N) (funext fun j => ?_)
    simp [va_rf]
  | i + 1 => by
    show (Jvm.Free.Multi.outerC c N h0 i).setSlot i (.ref (h0 + 1 + i)) = _
    rw [vr_outer c N h0 i, arrV_store]
    refine congrArg (arrV c N) (funext fun j => ?_)
    by_cases e : j = i
    · subst e
      simp [updV, va_rf]
    · by_cases h : j < i
      · simp [updV, e, h, Nat.lt_succ_of_lt h]
      · simp [updV, e, h, show ¬ j < i + 1 by omega]
section WN
variable {p : Program} {l : Launch} {e : Env} {R : Room} {s : State} {m : MethodId} {args : Array Value} {below : List Frame} {meth : Method} {c : Code} {H : Heap} {locs : List Loc} {cells slots : Nat} {Q : State → Prop}
variable {cc : ByteArray} {pc : Nat} {ls : Array Slot} {rest : List Value} {D : va_G} {cl : List vw_C} {A : Nat → Prop} {H0 : Heap} {ws : va_W} {cy : Nat → ClassId}
theorem wz_newa (hexec : p.tables.exec = Jvm.exec) (hb : c.code = cc) {atype : ArrayType} (harr : (Cond.arrayClass (newarray.typeOf atype)).before args s = true) {ty : FieldType} (hty : newarray.typeOf atype = ty) (k : Nat) (hk : (gTy cy)[k]? = some (cy k, ty)) (hu : ∀ a b : ClassId, va_RA s a ty → va_RA s b ty → a = b) (hK : va_K D cl (gTy cy) s) (hP : va_P D cl ws H) (hD : va_D A ws) (hS : va_S A H0 H locs) (hA : ∀ q, H0.size ≤ q → A q)
    {n : Int32} {N' : Nat} {a0 : vp_A} (ha : ∀ cA : ClassId, vp_cell cA a0 = arrV cA N' (fun _ => defaultValue ty)) (hn : ¬ n < 0) (hN : n.toNatClampNeg = N') (hbytes : N' * componentBytes ty ≤ 536870912) (hcells : cells + 1 ≤ R.cells) (hslots : slots + N' ≤ R.slots) (hdg : decode cc pc = .ok (.newarray atype, 2))
    (kk : ∀ (q : Nat) (H1 : Heap), va_P D cl (ws ++ [(q, .inl (cy k, a0))]) H1 → va_D A (ws ++ [(q, .inl (cy k, a0))]) → va_S A H0 H1 locs →
      W p l e R s m args below meth c H1 locs (cells + 1) (slots + N') Q (F0 m (pc + 2) ls (.ref q :: rest))) : W p l e R s m args below meth c H locs cells slots Q (F0 m pc ls (.int n :: rest)) := by
  refine va_newa hexec hb harr hty hK hP hD hS hA ha hn hN hbytes hcells hslots hdg (fun q cA H1 hK1 hP1 hD1 hS1 => ?_)
  have h1 : va_RA s cA ty := (hK1.2 5 (cA, ty) rfl).2
  have h2 : va_RA s (cy k) ty := (hK.2 k _ hk).2
  have e1 := hu cA (cy k) h1 h2
  subst e1
  exact kk q H1 hP1 hD1 hS1
theorem wz_mna (hexec : p.tables.exec = Jvm.exec) (hb : c.code = cc) {own : String} {index : Nat} {ty : FieldType} (hown : s.vm.findClass own = some m.cls) (hclink : (Cond.classLink own index ("[" ++ (FieldType.array ty).toString)).before args s = true) (hover : (Cond.arrayOver (.array ty)).before args s = true) (harr : (Cond.arrayClass ty).before args s = true) {cI cO : ClassId} (hcI : s.vm.findClass (FieldType.array ty).toString = some cI) (hcO : s.vm.findClass ("[" ++ (FieldType.array ty).toString) = some cO)
    (hP : va_P D cl ws H) (hD : va_D A ws) (hS : va_S A H0 H locs) (hA : ∀ q, H0.size ≤ q → A q) {n k : Int32} {N' K' : Nat} {z : vp_A} (hn : ¬ n < 0) (hk : ¬ k < 0) (hN : n.toNatClampNeg = N') (hM : k.toNatClampNeg = K')
    (hb1 : N' * 4 ≤ 536870912) (hb2 : K' * componentBytes ty ≤ 536870912) (hb3 : K' ≤ 536870912) (hdf : fits ty (defaultValue ty) = true) (hdd : (defaultValue ty).isDefault = true) (hcells : cells + (1 + N') ≤ R.cells) (hslots : slots + (N' + N' * K') ≤ R.slots) (hz : ∀ c : ClassId, Jvm.Free.Multi.innerC c K' (defaultValue ty) = vp_cell c z) (hdg : decode cc pc = .ok (.multianewarray index 2, 4))
    (kk : ∀ (q : Nat) (H1 : Heap), va_P D cl (ws ++ ((q, .inl (cO, N', .inr (.inr (.inr (.inr (fun i => if i < N' then some (q + 1 + i) else none)))))) :: vr_row q N' (.inl (cI, z)))) H1 → va_D A (ws ++ ((q, .inl (cO, N', .inr (.inr (.inr (.inr (fun i => if i < N' then some (q + 1 + i) else none)))))) :: vr_row q N' (.inl (cI, z)))) → va_S A H0 H1 locs →
      W p l e R s m args below meth c H1 locs (cells + 1 + N') (slots + N' + N' * K') Q (F0 m (pc + 4) ls (.ref q :: rest))) : W p l e R s m args below meth c H locs cells slots Q (F0 m pc ls (.int k :: .int n :: rest)) := by
  subst hN
  subst hM
  intro T hT Xs
  obtain ⟨vm₁, cA, comp, -, fA, fC, hO, -, X', step⟩ := Xs.multianewarray2F hexec hown hclink hover harr (g := F0 m pc ls (.int k :: .int n :: rest)) rfl (by rw [hb]; exact hdg) rfl hn hk hb1 hb2 hb3 hdf hdd hcells hslots
  cases Option.some.inj (hcI.symm.trans fC)
  cases Option.some.inj (hcO.symm.trans fA)
  generalize hF : Jvm.Free.Multi.fill (T.setVm vm₁) cO cI n.toNatClampNeg k.toNatClampNeg (defaultValue ty) n.toNatClampNeg = F at X' step
  have hTh : (T.setVm vm₁).heap = H := hT
  obtain ⟨f1, f2, -, -⟩ := Jvm.Free.Multi.fill_facts (T.setVm vm₁) cO cI n.toNatClampNeg k.toNatClampNeg (defaultValue ty) n.toNatClampNeg
  rw [hF, hTh] at f1 f2
  have hold : ∀ x : Nat, x < H.size → F.heap[x]? = H[x]? := fun x hx => by
    have := Jvm.Free.Multi.fill_old (T.setVm vm₁) cO cI n.toNatClampNeg k.toNatClampNeg (defaultValue ty) (a := x) (by rw [hTh]; exact hx) n.toNatClampNeg
    rw [hF, hTh] at this
    exact this
  have hrow : ∀ j : Nat, j < n.toNatClampNeg → F.heap[H.size + 1 + j]? = some (vp_cell cI z) := fun j hj => by
    have := Jvm.Free.Multi.fill_inner (T.setVm vm₁) cO cI n.toNatClampNeg k.toNatClampNeg (defaultValue ty) n.toNatClampNeg j hj
    rw [hF, hTh, hz] at this
    exact this
  have hout : Jvm.Free.Multi.outerC cO n.toNatClampNeg H.size n.toNatClampNeg = vp_cell cO (n.toNatClampNeg, .inr (.inr (.inr (.inr (fun i => if i < n.toNatClampNeg then some (H.size + 1 + i) else none))))) := by
    rw [vp_cell_q]
    exact vr_outer cO n.toNatClampNeg H.size n.toNatClampNeg
  rw [hout] at f2
  have hP0 : va_P D cl ws F.heap := hP.kept (fun k9 x hx => hold x.1 ((hP k9 x hx).lt))
  have hcons : ∀ (k9 : Nat) (x : Nat × va_E), ((H.size, .inl (cO, n.toNatClampNeg, .inr (.inr (.inr (.inr (fun i => if i < n.toNatClampNeg then some (H.size + 1 + i) else none)))))) :: vr_row H.size n.toNatClampNeg (.inl (cI, z)))[k9]? = some x → x.1 = H.size + k9 ∧ va_at D cl x F.heap := by
    intro k9 x hx
    match k9, hx with
    | 0, hx =>
      cases hx
      exact ⟨rfl, f2⟩
    | k9 + 1, hx =>
      rw [List.getElem?_cons_succ] at hx
      obtain ⟨h1, rfl⟩ := vr_at hx
      exact ⟨by show H.size + 1 + k9 = H.size + (k9 + 1); omega, hrow k9 h1⟩
  have hP2 : va_P D cl (ws ++ ((H.size, .inl (cO, n.toNatClampNeg, .inr (.inr (.inr (.inr (fun i => if i < n.toNatClampNeg then some (H.size + 1 + i) else none)))))) :: vr_row H.size n.toNatClampNeg (.inl (cI, z)))) F.heap := hP0.app (fun k9 x hx => (hcons k9 x hx).2)
  have hlow : ∀ (k9 : Nat) (x : Nat × va_E), ws[k9]? = some x → x.1 < H.size := fun k9 x hx => (hP k9 x hx).lt
  have hD2 : va_D A (ws ++ ((H.size, .inl (cO, n.toNatClampNeg, .inr (.inr (.inr (.inr (fun i => if i < n.toNatClampNeg then some (H.size + 1 + i) else none)))))) :: vr_row H.size n.toNatClampNeg (.inl (cI, z)))) := by
    refine hD.app ⟨fun i j x y hx hy hxy => ?_, fun k9 x hx => ?_⟩ (fun i j x y hx hy => ?_)
    · have h1 := (hcons i x hx).1
      have h2 := (hcons j y hy).1
      omega
    · have h1 := (hcons k9 x hx).1
      exact hA _ (by have := hS.1; omega)
    · have h1 := hlow i x hx
      have h2 := (hcons j y hy).1
      omega
  obtain ⟨t, a1, b1⟩ := kk H.size F.heap hP2 hD2 ⟨by rw [f1]; have := hS.1; omega, fun x h1 h2 => (hold x (Nat.lt_of_lt_of_le h1 hS.1)).trans (hS.2.1 x h1 h2), hS.2.2⟩ F rfl X'
  refine ⟨t, step t ?_, b1⟩
  have e9 : T.heap.size = H.size := by rw [hT]
  rw [e9]
  exact a1
end WN
theorem ra_int {s : State} (a b : ClassId) (h1 : va_RA s a .int) (h2 : va_RA s b .int) : a = b := Option.some.inj (Eq.trans (Eq.symm h1) h2)
theorem ra_bool {s : State} (a b : ClassId) (h1 : va_RA s a .boolean) (h2 : va_RA s b .boolean) : a = b := Option.some.inj (Eq.trans (Eq.symm h1) h2)
theorem ra_long {s : State} (a b : ClassId) (h1 : va_RA s a .long) (h2 : va_RA s b .long) : a = b := Option.some.inj (Eq.trans (Eq.symm h1) h2)
theorem hk_I {D : va_G} {cl : List vw_C} {cy : Nat → ClassId} {s : State} (hK : va_K D cl (gTy cy) s) : s.vm.findClass (FieldType.array .int).toString = some (cy 0) := (hK.2 0 (cy 0, .int) rfl).2
theorem hk_J {D : va_G} {cl : List vw_C} {cy : Nat → ClassId} {s : State} (hK : va_K D cl (gTy cy) s) : s.vm.findClass (FieldType.array .long).toString = some (cy 2) := (hK.2 2 (cy 2, .long) rfl).2
theorem hk_II {D : va_G} {cl : List vw_C} {cy : Nat → ClassId} {s : State} (hK : va_K D cl (gTy cy) s) : s.vm.findClass ("[" ++ (FieldType.array .int).toString) = some (cy 3) := (hK.2 3 (cy 3, .array .int) rfl).2
theorem hk_JJ {D : va_G} {cl : List vw_C} {cy : Nat → ClassId} {s : State} (hK : va_K D cl (gTy cy) s) : s.vm.findClass ("[" ++ (FieldType.array .long).toString) = some (cy 4) := (hK.2 4 (cy 4, .array .long) rfl).2
theorem ao_any {t : FieldType} {a b : Array Value} {s : State} (h : (Cond.arrayOver (.array t)).before a s = true) : (Cond.arrayOver (.array t)).before b s = true := h
