/-! Calls and returns over a store -/
def bd2 {a b c : Type} (x : Option (a × b)) (f : a → b → Option c) : Option c := match x with | some (p, q) => f p q | none => none
theorem op_let {a b : Type} {x : a} {f : a → Option b} {y : b} (h : (some x).bind f = some y) : ∃ w, x = w ∧ f w = some y := ⟨x, rfl, h⟩
theorem op_b2 {a b c : Type} {x : Option (a × b)} {f : a → b → Option c} {y : c} (h : bd2 x f = some y) : ∃ p q, x = some (p, q) ∧ f p q = some y := by
  match x, h with
  | some (p, q), h => exact ⟨p, q, rfl, h⟩
section WC
variable {p : Program} {l : Launch} {e : Env} {R : Room} {s : State} {m : MethodId} {args : Array Value} {below : List Frame} {meth : Method} {c : Code} {H : Heap} {locs : List Loc} {cells slots : Nat} {Q : State → Prop}
variable {cc : ByteArray} {pc : Nat} {ls : Array Slot} {rest : List Value} {D : va_G} {cl : List vw_C} {A : Nat → Prop} {tys : List (ClassId × FieldType)} {H0 : Heap} {n : Nat} {ad : Nat → Nat} {g g' : Nat → va_E} {nw : State → Prop}
theorem sw_i {x y : Int32} (h : x = y) (k : W p l e R s m args below meth c H locs cells slots Q (F0 m pc ls (.int y :: rest))) : W p l e R s m args below meth c H locs cells slots Q (F0 m pc ls (.int x :: rest)) := h ▸ k
theorem sw_l {x y : Int64} (h : x = y) (k : W p l e R s m args below meth c H locs cells slots Q (F0 m pc ls (.long y :: rest))) : W p l e R s m args below meth c H locs cells slots Q (F0 m pc ls (.long x :: rest)) := h ▸ k
theorem s_blind (hn : nwOk nw) {sz : Nat} {av : List Value} : FrameBlind (sPc D cl tys nw n ad g sz av) := fun a U g mk q => by
  obtain ⟨q0, q1, qP, qK, qN, qD⟩ := q
  exact ⟨q0, q1, qP, va_K.moved (u := U) (U := U.calling g mk a) (Vm.Alike.refl U.vm) qK, hn.2 U _ rfl qN, qD⟩
theorem s_pre (hn : nwOk nw) (hN : nw s) (hK : va_K D cl tys s) (hP : va_P D cl (wl n ad g) H) (hD : va_D A (wl n ad g)) {av : List Value} : ∀ U : State, U.heap = H → s.WarmedH U.vm → sPc D cl tys nw n ad g H.size av av.toArray U := fun U hU hW => ⟨rfl, by rw [hU], by rw [hU]; exact hP, va_K.moved hW.alike hK, hn.1 s U hW hN, hD.weaken (fun _ _ _ _ => trivial)⟩
variable {y : MethodName} {bytes : ByteArray} {maxL nL nA index : Nat} {ret : Option FieldType} {ws Ts : List Cond} {rm : Room} {own C host : String} {As : List Value} {Qc : Array Value → State → Outcome → State → Prop} {free : Addr → Prop} {st : List Value}
theorem wx_rV (S : CallFix p m c cc nL s args Ts own) {q : Nat} (hM : Met l y ws rm (sPc D cl tys nw n ad g H.size (.ref (ad q) :: As)) Qc 0 0 free) (cw : CallW R s args own C index y bytes maxL ret ws rm 0 0 nA) (hn : nwOk nw) (hN : nw s) (hK : va_K D cl tys s) (hP : va_P D cl (wl n ad g) H) (hD : va_D A (wl n ad g)) (hq : q < n) {ci : Nat} {fs : List Value} (he : g q = .inr (ci, fs)) {T : u_T} {N : Nat} (hc : cl[ci]? = some (C, T, N))
    (hA : As.length = nA) (hsize : ls.size = nL) (hstack : st = As.reverse ++ .ref (ad q) :: rest) (hroom : (rest.map fun v => v.category).sum ≤ 8) (hdg : decode cc pc = .ok (.invokevirtual index, 3)) (hf : cells + 0 ≤ R.cells ∧ slots + 0 ≤ R.slots) :
    va_Run p l e R s m args below meth c H locs cells slots 0 0 (F0 m pc ls st) rest (Qc (Value.ref (ad q) :: As).toArray) free :=
  va_runV S hM cw ⟨s_blind hn, va_recv hK hP hc (by rw [wl_get hq, he]), s_pre hn hN hK hP hD⟩ rfl hA hsize hstack (lv_room hroom) hdg hf
theorem wx_rS (S : CallFix p m c cc nL s args Ts own) (hM : Met l y ws rm (sPc D cl tys nw n ad g H.size As) Qc 0 0 free) (cw : CallB R s args own index y bytes maxL ret ws rm 0 0 nA ∧ (Cond.static y).before args s = true) (hn : nwOk nw) (hN : nw s) (hK : va_K D cl tys s) (hP : va_P D cl (wl n ad g) H) (hD : va_D A (wl n ad g))
    (hA : As.length = nA) (hsize : ls.size = nL) (hstack : st = As.reverse ++ rest) (hroom : (rest.map fun v => v.category).sum ≤ 8) (hdg : decode cc pc = .ok (.invokestatic index, 3)) (hf : cells + 0 ≤ R.cells ∧ slots + 0 ≤ R.slots) :
    va_Run p l e R s m args below meth c H locs cells slots 0 0 (F0 m pc ls st) rest (Qc As.toArray) free :=
  va_runS S hM cw ⟨s_blind hn, s_pre hn hN hK hP hD⟩ rfl hA hsize hstack (lv_room hroom) hdg hf
theorem wx_rSN (S : CallFix p m c cc nL s args Ts own) (hM : Met l y ws rm (sPc D cl tys nw n ad g H.size As) Qc 0 0 free) (cw : va_CN R s args own index y host bytes maxL ret ws rm 0 0 nA ∧ (Cond.static y).before args s = true ∧ True) (hn : nwOk nw) (hN : nw s) (hK : va_K D cl tys s) (hP : va_P D cl (wl n ad g) H) (hD : va_D A (wl n ad g))
    (hA : As.length = nA) (hsize : ls.size = nL) (hstack : st = As.reverse ++ rest) (hroom : (rest.map fun v => v.category).sum ≤ 8) (hdg : decode cc pc = .ok (.invokestatic index, 3)) (hf : cells + 0 ≤ R.cells ∧ slots + 0 ≤ R.slots) :
    va_Run p l e R s m args below meth c H locs cells slots 0 0 (F0 m pc ls st) rest (Qc As.toArray) free :=
  va_runSN S hM cw ⟨s_blind hn, s_pre hn hN hK hP hD⟩ rfl hA hsize hstack (lv_room hroom) hdg hf
variable {a : Array Value}
theorem wx_fi {r : Int32} (hr : va_Run p l e R s m args below meth c H locs cells slots 0 0 (F0 m pc ls st) rest (sQi D cl n ad g H.size r g' a) (va_A (wl n ad g) H.size)) (hD : va_D A (wl n ad g)) (hS : va_S A H0 H locs) (hA : ∀ q, H0.size ≤ q → A q)
    (kk : ∀ (H1 : Heap) (locs1 : List Loc), va_P D cl (wl n ad g') H1 → va_S A H0 H1 locs1 → W p l e R s m args below meth c H1 locs1 cells slots Q (F0 m (pc + 3) ls (.int r :: rest))) : W p l e R s m args below meth c H locs cells slots Q (F0 m pc ls st) :=
  va_calli hr hS (fun q _ h => wl_A hD hS hA q h) (wl_A hD hS hA) (fun r' u t H1 locs1 ht hvm hp hB hz hk hS1 => by
    subst hp
    rw [ht] at hB
    exact kk H1 locs1 hB hS1)
theorem wx_fl {r : Int64} (hr : va_Run p l e R s m args below meth c H locs cells slots 0 0 (F0 m pc ls st) rest (sQl D cl n ad g H.size r g' a) (va_A (wl n ad g) H.size)) (hD : va_D A (wl n ad g)) (hS : va_S A H0 H locs) (hA : ∀ q, H0.size ≤ q → A q)
    (kk : ∀ (H1 : Heap) (locs1 : List Loc), va_P D cl (wl n ad g') H1 → va_S A H0 H1 locs1 → W p l e R s m args below meth c H1 locs1 cells slots Q (F0 m (pc + 3) ls (.long r :: rest))) : W p l e R s m args below meth c H locs cells slots Q (F0 m pc ls st) :=
  va_calll hr hS (fun q _ h => wl_A hD hS hA q h) (wl_A hD hS hA) (fun r' u t H1 locs1 ht hvm hp hB hz hk hS1 => by
    subst hp
    rw [ht] at hB
    exact kk H1 locs1 hB hS1)
theorem wx_fv (hr : va_Run p l e R s m args below meth c H locs cells slots 0 0 (F0 m pc ls st) rest (sQv D cl n ad g H.size g' a) (va_A (wl n ad g) H.size)) (hD : va_D A (wl n ad g)) (hS : va_S A H0 H locs) (hA : ∀ q, H0.size ≤ q → A q)
    (kk : ∀ (H1 : Heap) (locs1 : List Loc), va_P D cl (wl n ad g') H1 → va_S A H0 H1 locs1 → W p l e R s m args below meth c H1 locs1 cells slots Q (F0 m (pc + 3) ls rest)) : W p l e R s m args below meth c H locs cells slots Q (F0 m pc ls st) :=
  va_callv hr hS (fun q _ h => wl_A hD hS hA q h) (wl_A hD hS hA) (fun u t H1 locs1 ht hvm hp hB hz hk hS1 => by
    rw [ht] at hB
    exact kk H1 locs1 hB hS1)
theorem wx_iret {v r : Int32} (hexec : p.tables.exec = Jvm.exec) (hb : c.code = cc) (hr : meth.sig.returnType = some .int) (hlocks : meth.locks = false) (hAe : A = va_A (wl n ad g) s.heap.size) (hP : va_P D cl (wl n ad g') H) (hS : va_S A s.heap H locs) (hv : v = r) (hdg : decode cc pc = .ok (.ireturn, 1)) :
    W p l e R s m args below meth c H locs 0 0 (MQ below (sQi D cl n ad g s.heap.size r g') args s 0 0 (va_A (wl n ad g) s.heap.size)) (F0 m pc ls [.int v]) := by
  subst hAe
  subst hv
  exact W.iret hexec hb hr (fun t ht hW => ⟨⟨_, (), rfl, rfl, by show va_P D cl (wl n ad g') t.heap; rw [ht]; exact hP⟩, hS.F ht⟩) hS.2.2 hdg hlocks
theorem wx_zret {v r : Int32} (hexec : p.tables.exec = Jvm.exec) (hb : c.code = cc) (hr : meth.sig.returnType = some .boolean) (hlocks : meth.locks = false) (hn : narrow .boolean (.int v) = .int v) (hAe : A = va_A (wl n ad g) s.heap.size) (hP : va_P D cl (wl n ad g') H) (hS : va_S A s.heap H locs) (hv : v = r) (hdg : decode cc pc = .ok (.ireturn, 1)) :
    W p l e R s m args below meth c H locs 0 0 (MQ below (sQi D cl n ad g s.heap.size r g') args s 0 0 (va_A (wl n ad g) s.heap.size)) (F0 m pc ls [.int v]) := by
  subst hAe
  subst hv
  exact W.zret hexec hb hr hn (fun t ht hW => ⟨⟨_, (), rfl, rfl, by show va_P D cl (wl n ad g') t.heap; rw [ht]; exact hP⟩, hS.F ht⟩) hS.2.2 hdg hlocks
theorem wx_lret {v r : Int64} (hexec : p.tables.exec = Jvm.exec) (hb : c.code = cc) (hr : meth.sig.returnType = some .long) (hlocks : meth.locks = false) (hAe : A = va_A (wl n ad g) s.heap.size) (hP : va_P D cl (wl n ad g') H) (hS : va_S A s.heap H locs) (hv : v = r) (hdg : decode cc pc = .ok (.lreturn, 1)) :
    W p l e R s m args below meth c H locs 0 0 (MQ below (sQl D cl n ad g s.heap.size r g') args s 0 0 (va_A (wl n ad g) s.heap.size)) (F0 m pc ls [.long v]) := by
  subst hAe
  subst hv
  exact W.lret hexec hb hr (fun t ht hW => ⟨⟨_, (), rfl, rfl, by show va_P D cl (wl n ad g') t.heap; rw [ht]; exact hP⟩, hS.F ht⟩) hS.2.2 hdg hlocks
theorem wx_vret (hexec : p.tables.exec = Jvm.exec) (hb : c.code = cc) (hr : meth.sig.returnType = none) (hlocks : meth.locks = false) (hAe : A = va_A (wl n ad g) s.heap.size) (hP : va_P D cl (wl n ad g') H) (hS : va_S A s.heap H locs) (hdg : decode cc pc = .ok (.return_, 1)) :
    W p l e R s m args below meth c H locs 0 0 (MQ below (sQv D cl n ad g s.heap.size g') args s 0 0 (va_A (wl n ad g) s.heap.size)) (F0 m pc ls []) := by
  subst hAe
  exact W.vret hexec hb hr (fun t ht hW => ⟨⟨(), rfl, trivial, by show va_P D cl (wl n ad g') t.heap; rw [ht]; exact hP⟩, hS.F ht⟩) hS.2.2 hdg hlocks
end WC
