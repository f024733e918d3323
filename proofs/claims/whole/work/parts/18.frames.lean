/-! worlds: their order is free; a call that needs a part of a world -/
theorem vaD_iff {A : Nat → Prop} {ws : va_W} : va_D A ws ↔ ws.Pairwise (fun p q => p.1 ≠ q.1) ∧ ∀ q ∈ ws, A q.1 := by
  constructor
  · intro h
    refine ⟨List.pairwise_iff_getElem.mpr (fun i j hi hj hij e => ?_), fun q hq => ?_⟩
    · have := h.1 i j ws[i] ws[j] (List.getElem?_eq_getElem hi) (List.getElem?_eq_getElem hj) e
      omega
    · obtain ⟨k, hk⟩ := List.getElem?_of_mem hq
      exact h.2 k q hk
  · intro h
    refine ⟨fun i j p q hp hq e => ?_, fun k q hk => h.2 q (List.mem_of_getElem? hk)⟩
    obtain ⟨hi, rfl⟩ := List.getElem?_eq_some_iff.mp hp
    obtain ⟨hj, rfl⟩ := List.getElem?_eq_some_iff.mp hq
    rcases Nat.lt_trichotomy i j with h1 | h1 | h1
    · exact absurd e (List.pairwise_iff_getElem.mp h.1 i j hi hj h1)
    · exact h1
    · exact absurd e.symm (List.pairwise_iff_getElem.mp h.1 j i hj hi h1)
theorem vaP_iff {D : va_G} {cl : List vw_C} {ws : va_W} {H : Heap} : va_P D cl ws H ↔ ∀ q ∈ ws, va_at D cl q H := ⟨fun h q hq => by obtain ⟨k, hk⟩ := List.getElem?_of_mem hq; exact h k q hk, fun h k q hk => h q (List.mem_of_getElem? hk)⟩
section KitF
variable {p : Program} {l : Launch} {e : Env} {R : Room} {s : State} {m : MethodId} {args : Array Value} {below : List Frame} {meth : Method} {c : Code} {H : Heap} {locs : List Loc} {cells slots : Nat} {Q : State → Prop} {cc : ByteArray} {pc : Nat} {ls : Array Slot} {rest : List Value} {own : String} {nL : Nat} {D : va_G} {tys tys1 : List (ClassId × FieldType)} {A : Nat → Prop} {H0 : Heap} {w w1 w2 : va_W}
theorem WD.perm {w' : va_W} (hp : w.Perm w') (hw : WD D A H0 w H locs) : WD D A H0 w' H locs := ⟨vaP_iff.mpr (fun q hq => vaP_iff.mp hw.1 q (hp.mem_iff.mpr hq)), vaD_iff.mpr ⟨(hp.pairwise_iff (fun h => Ne.symm h)).mp (vaD_iff.mp hw.2.1).1, fun q hq => (vaD_iff.mp hw.2.1).2 q (hp.mem_iff.mpr hq)⟩, hw.2.2⟩
theorem WD.left (hw : WD D A H0 (w1 ++ w2) H locs) : WD D A H0 w1 H locs := ⟨vaP_iff.mpr (fun q hq => vaP_iff.mp hw.1 q (List.mem_append_left _ hq)), vaD_iff.mpr ⟨(List.pairwise_append.mp (vaD_iff.mp hw.2.1).1).1, fun q hq => (vaD_iff.mp hw.2.1).2 q (List.mem_append_left _ hq)⟩, hw.2.2⟩
theorem WD.join {w1' : va_W} {H1 : Heap} {locs1 : List Loc} (hw : WD D A H0 (w1 ++ w2) H locs) (hk : ∀ q : Nat, q < H.size → ¬ va_A w1 H.size q → H1[q]? = H[q]?) (hP1 : va_P D vwCl w1' H1) (hD1 : va_D (va_A w1 H.size) w1') (hS : va_S A H0 H1 locs1) : WD D A H0 (w1' ++ w2) H1 locs1 := by
  have hpw := List.pairwise_append.mp (vaD_iff.mp hw.2.1).1
  have hF := wd_free hw.left
  have apart : ∀ q ∈ w2, q.1 < H.size ∧ ¬ va_A w1 H.size q.1 := by
    intro q hq
    have hl := (vaP_iff.mp hw.1 q (List.mem_append_right _ hq)).lt
    refine ⟨hl, fun h => ?_⟩
    rcases h with ⟨k, e, h⟩ | h
    · exact hpw.2.2 (q.1, e) (List.mem_of_getElem? h) q hq rfl
    · omega
  refine ⟨va_P.app hP1 (vaP_iff.mpr (fun q hq => (vaP_iff.mp hw.1 q (List.mem_append_right _ hq)).kept (hk q.1 (apart q hq).1 (apart q hq).2))), vaD_iff.mpr ⟨List.pairwise_append.mpr ⟨(vaD_iff.mp hD1).1, hpw.2.1, fun x hx y hy e => (apart y hy).2 (e ▸ (vaD_iff.mp hD1).2 x hx)⟩, fun q hq => ?_⟩, hS, hw.2.2.2⟩
  rcases List.mem_append.mp hq with h | h
  · exact hF _ ((vaD_iff.mp hD1).2 q h)
  · exact (vaD_iff.mp hw.2.1).2 q (List.mem_append_right _ h)
theorem fcV (K : MC p s m args meth c cc own nL D tys) (hK1 : va_K D vwCl tys1 s) (hw : WD D A H0 (w1 ++ w2) H locs) {y : MethodName} {b : ByteArray} {mL idx : Nat} {rm : Room} {bb : Nat} {As : List Value} {w1' : va_W} (hC : CV l y b mL rm D tys1 (.ref bb :: As) w1 w1') (hl : ls.size = nL) (hG : GoodIn TT (wsV own idx y.cls y (Cond.code y b mL none :: TT))) (q0 : Nat) {ci : Nat} {r : vw_C} {fs : List Value} (he : w1[q0]? = some (bb, .inr (ci, fs))) (hc : vwCl[ci]? = some r) (hcy : r.1 = y.cls) {na : Nat} (hna : As.length = na) (hd9 : y.cls ≠ "java/lang/invoke/MethodHandle" ∧ y.cls ≠ "java/lang/invoke/VarHandle" ∧ (parseMethodDescriptor y.desc).map (fun d => d.parameters.length) = some na) (hrm : rm.cells = 0 ∧ rm.slots = 0) (hcs : cells ≤ R.cells ∧ slots ≤ R.slots) (hR : rm.frames + 1 ≤ R.frames ∧ 8 + (mL + 11) + rm.locals ≤ R.locals) {st : List Value} (hst : st = As.reverse ++ .ref bb :: rest) (hre : (rest.map fun v => v.category).sum ≤ 8) (hd : decode cc pc = .ok (.invokevirtual idx, 3)) (kk : ∀ (H1 : Heap) (locs1 : List Loc), WD D A H0 (w1' ++ w2) H1 locs1 → W p l e R s m args below meth c H1 locs1 cells slots Q (F0 m (pc + 3) ls rest)) : W p l e R s m args below meth c H locs cells slots Q (F0 m pc ls st) := by
  have hF := wd_free hw.left
  refine va_callv (va_runV (As := As) (rest := rest) ⟨K.1, K.2.1, K.2.2.2.2.2.1, K.2.2.2.1, K.2.2.1⟩ (hC H.size) (cwV na K.2.2.1 hG rfl hrm.1 hrm.2 ⟨rfl, hd9⟩ hR) ⟨fun a U g mk q => by obtain ⟨q0, q1, qP, qK, qD⟩ := q; exact ⟨q0, q1, qP, va_K.moved (u := U) (U := U.calling g mk a) (Vm.Alike.refl U.vm) qK, qD⟩, hcy ▸ va_recv hK1 hw.left.1 hc he, fun U hU hW => ⟨rfl, by rw [hU], by rw [hU]; exact hw.left.1, va_K.moved hW.alike hK1, hw.left.2.1.weaken (fun _ _ _ _ => trivial)⟩⟩ rfl hna hl hst (lv_room hre) hd hcs) hw.2.2.1 (fun q _ h => hF q h) hF (fun u t H1 locs1 ht hvm hr9 hB hz1 hk1 hS => ?_)
  obtain ⟨hP1, hK1', hD1⟩ := hB
  rw [ht] at hP1
  exact kk H1 locs1 (hw.join hk1 hP1 hD1 hS)
theorem fcI (K : MC p s m args meth c cc own nL D tys) (hK1 : va_K D vwCl tys1 s) (hw : WD D A H0 (w1 ++ w2) H locs) {y : MethodName} {b : ByteArray} {mL idx : Nat} {ty : FieldType} {rm : Room} {bb : Nat} {As : List Value} {w1' : va_W} {r' : Int32} (hC : CI l y b mL ty rm D tys1 (.ref bb :: As) w1 w1' r') (hl : ls.size = nL) (hG : GoodIn TT (wsV own idx y.cls y (Cond.code y b mL (some ty) :: TT))) (q0 : Nat) {ci : Nat} {r : vw_C} {fs : List Value} (he : w1[q0]? = some (bb, .inr (ci, fs))) (hc : vwCl[ci]? = some r) (hcy : r.1 = y.cls) {na : Nat} (hna : As.length = na) (hd9 : y.cls ≠ "java/lang/invoke/MethodHandle" ∧ y.cls ≠ "java/lang/invoke/VarHandle" ∧ (parseMethodDescriptor y.desc).map (fun d => d.parameters.length) = some na) (hrm : rm.cells = 0 ∧ rm.slots = 0) (hcs : cells ≤ R.cells ∧ slots ≤ R.slots) (hR : rm.frames + 1 ≤ R.frames ∧ 8 + (mL + 11) + rm.locals ≤ R.locals) {st : List Value} (hst : st = As.reverse ++ .ref bb :: rest) (hre : (rest.map fun v => v.category).sum ≤ 8) (hd : decode cc pc = .ok (.invokevirtual idx, 3)) (kk : ∀ (H1 : Heap) (locs1 : List Loc), WD D A H0 (w1' ++ w2) H1 locs1 → W p l e R s m args below meth c H1 locs1 cells slots Q (F0 m (pc + 3) ls (.int r' :: rest))) : W p l e R s m args below meth c H locs cells slots Q (F0 m pc ls st) := by
  have hF := wd_free hw.left
  refine va_calli (va_runV (As := As) (rest := rest) ⟨K.1, K.2.1, K.2.2.2.2.2.1, K.2.2.2.1, K.2.2.1⟩ (hC H.size) (cwV na K.2.2.1 hG rfl hrm.1 hrm.2 ⟨rfl, hd9⟩ hR) ⟨fun a U g mk q => by obtain ⟨q0, q1, qP, qK, qD⟩ := q; exact ⟨q0, q1, qP, va_K.moved (u := U) (U := U.calling g mk a) (Vm.Alike.refl U.vm) qK, qD⟩, hcy ▸ va_recv hK1 hw.left.1 hc he, fun U hU hW => ⟨rfl, by rw [hU], by rw [hU]; exact hw.left.1, va_K.moved hW.alike hK1, hw.left.2.1.weaken (fun _ _ _ _ => trivial)⟩⟩ rfl hna hl hst (lv_room hre) hd hcs) hw.2.2.1 (fun q _ h => hF q h) hF (fun r9 u t H1 locs1 ht hvm hr9 hB hz1 hk1 hS => ?_)
  obtain ⟨hP1, hK1', hD1⟩ := hB
  rw [ht] at hP1
  rw [hr9]
  exact kk H1 locs1 (hw.join hk1 hP1 hD1 hS)
theorem fcL (K : MC p s m args meth c cc own nL D tys) (hK1 : va_K D vwCl tys1 s) (hw : WD D A H0 (w1 ++ w2) H locs) {y : MethodName} {b : ByteArray} {mL idx : Nat} {rm : Room} {bb : Nat} {As : List Value} {w1' : va_W} {r' : Int64} (hC : CL l y b mL rm D tys1 (.ref bb :: As) w1 w1' r') (hl : ls.size = nL) (hG : GoodIn TT (wsV own idx y.cls y (Cond.code y b mL (some .long) :: TT))) (q0 : Nat) {ci : Nat} {r : vw_C} {fs : List Value} (he : w1[q0]? = some (bb, .inr (ci, fs))) (hc : vwCl[ci]? = some r) (hcy : r.1 = y.cls) {na : Nat} (hna : As.length = na) (hd9 : y.cls ≠ "java/lang/invoke/MethodHandle" ∧ y.cls ≠ "java/lang/invoke/VarHandle" ∧ (parseMethodDescriptor y.desc).map (fun d => d.parameters.length) = some na) (hrm : rm.cells = 0 ∧ rm.slots = 0) (hcs : cells ≤ R.cells ∧ slots ≤ R.slots) (hR : rm.frames + 1 ≤ R.frames ∧ 8 + (mL + 11) + rm.locals ≤ R.locals) {st : List Value} (hst : st = As.reverse ++ .ref bb :: rest) (hre : (rest.map fun v => v.category).sum ≤ 8) (hd : decode cc pc = .ok (.invokevirtual idx, 3)) (kk : ∀ (H1 : Heap) (locs1 : List Loc), WD D A H0 (w1' ++ w2) H1 locs1 → W p l e R s m args below meth c H1 locs1 cells slots Q (F0 m (pc + 3) ls (.long r' :: rest))) : W p l e R s m args below meth c H locs cells slots Q (F0 m pc ls st) := by
  have hF := wd_free hw.left
  refine va_calll (va_runV (As := As) (rest := rest) ⟨K.1, K.2.1, K.2.2.2.2.2.1, K.2.2.2.1, K.2.2.1⟩ (hC H.size) (cwV na K.2.2.1 hG rfl hrm.1 hrm.2 ⟨rfl, hd9⟩ hR) ⟨fun a U g mk q => by obtain ⟨q0, q1, qP, qK, qD⟩ := q; exact ⟨q0, q1, qP, va_K.moved (u := U) (U := U.calling g mk a) (Vm.Alike.refl U.vm) qK, qD⟩, hcy ▸ va_recv hK1 hw.left.1 hc he, fun U hU hW => ⟨rfl, by rw [hU], by rw [hU]; exact hw.left.1, va_K.moved hW.alike hK1, hw.left.2.1.weaken (fun _ _ _ _ => trivial)⟩⟩ rfl hna hl hst (lv_room hre) hd hcs) hw.2.2.1 (fun q _ h => hF q h) hF (fun r9 u t H1 locs1 ht hvm hr9 hB hz1 hk1 hS => ?_)
  obtain ⟨hP1, hK1', hD1⟩ := hB
  rw [ht] at hP1
  rw [hr9]
  exact kk H1 locs1 (hw.join hk1 hP1 hD1 hS)
theorem XF.call {A : Nat → Prop} {U : State} {H : Heap} {g : JFrame} {mk : MethodId} {a : Array Value} (h : XF A U H) : XF A (U.calling g mk a) H :=
  ⟨⟨va_Nw.same rfl rfl h.1.1, va_Nw.same rfl rfl h.1.2.1, va_Nw.same rfl rfl h.1.2.2.1, va_Nw.same rfl rfl h.1.2.2.2.1, va_Nw.same rfl rfl h.1.2.2.2.2⟩, h.2.1.moved (u := U) (Vm.Alike.refl U.vm), h.2.2.moved (u := U) (Vm.Alike.refl U.vm)⟩
theorem fcXi (K : MC p s m args meth c cc own nL D tys) (hK1 : va_K D vwCl tys1 s) (hw : WD D A H0 (w1 ++ w2) H locs) {y : MethodName} {b : ByteArray} {mL idx : Nat} {rm : Room} {bb : Nat} {As : List Value} {cX : Int32 × Int32} {eI eS : Int32} (hC : CXi l y b mL rm D tys1 (.ref bb :: As) w1 cX eI eS) (hl : ls.size = nL) (hG : GoodIn TT (wsV own idx y.cls y (Cond.code y b mL (some .int) :: TT))) (q0 : Nat) {ci : Nat} {r : vw_C} {fs : List Value} (he : w1[q0]? = some (bb, .inr (ci, fs))) (hc : vwCl[ci]? = some r) (hcy : r.1 = y.cls) {na : Nat} (hna : As.length = na) (hd9 : y.cls ≠ "java/lang/invoke/MethodHandle" ∧ y.cls ≠ "java/lang/invoke/VarHandle" ∧ (parseMethodDescriptor y.desc).map (fun d => d.parameters.length) = some na) (hX : XF A s H0) (hrm : rm.cells = 1 ∧ rm.slots = 6) (hcs : cells + 1 ≤ R.cells ∧ slots + 6 ≤ R.slots) (hR : rm.frames + 1 ≤ R.frames ∧ 8 + (mL + 11) + rm.locals ≤ R.locals) {st : List Value} (hst : st = As.reverse ++ .ref bb :: rest) (hre : (rest.map fun v => v.category).sum ≤ 8) (hd : decode cc pc = .ok (.invokevirtual idx, 3))
    (kx : ∀ (E : String) (ce : Cell) (q9 : Addr) (H1 : Heap) (locs1 : List Loc), ((E = nIO ∧ cX = (eI, 0)) ∨ (E = nIS ∧ cX = (eS, 0))) → WD D A H0 (w1 ++ w2) H1 locs1 → H1[q9]? = some ce → ce.vm = .none → s.vm.findClass E = some ce.cls → vx_W p l e R s m args below meth c H1 locs1 (cells + 1) (slots + 6) Q (F0 m pc ls rest) q9)
    (kk : ∀ (r9 : Int32) (H1 : Heap) (locs1 : List Loc), cX = (0, r9) → WD D A H0 (w1 ++ w2) H1 locs1 → W p l e R s m args below meth c H1 locs1 (cells + 1) (slots + 6) Q (F0 m (pc + 3) ls (.int r9 :: rest))) : W p l e R s m args below meth c H locs cells slots Q (F0 m pc ls st) := by
  have hF := wd_free hw.left
  refine vx_calli (vx_runV (As := As) (rest := rest) ⟨K.1, K.2.1, K.2.2.2.2.2.1, K.2.2.2.1, K.2.2.1⟩ (hC H.size) (cwV na K.2.2.1 hG rfl hrm.1 hrm.2 ⟨rfl, hd9⟩ hR) ⟨fun a U g mk q => by obtain ⟨q0, ⟨q1, qP, qK, qD⟩, qX⟩ := q; exact ⟨q0, ⟨q1, qP, va_K.moved (u := U) (U := U.calling g mk a) (Vm.Alike.refl U.vm) qK, qD⟩, XF.call qX⟩, hcy ▸ va_recv hK1 hw.left.1 hc he, fun U hU hW => ⟨rfl, ⟨by rw [hU], by rw [hU]; exact hw.left.1, va_K.moved hW.alike hK1, hw.left.2.1.weaken (fun _ _ _ _ => trivial)⟩, by rw [hU]; exact hX.go hW hw.2.2.1 hF⟩⟩ rfl hna hl hst (lv_room hre) hd hcs) hw.2.2.1 (fun q _ h => hF q h) hF (fun q _ h => hF q h) (fun E ce q9 u t H1 locs1 ht hvm _ hB hz1 hk1 hS hcell hv hcl => ?_) (fun r9 u t H1 locs1 ht hvm hr9 hB hz1 hk1 hS => ?_)
  · obtain ⟨hE, hP1, hK1', hD1⟩ := hB
    rw [ht] at hP1
    exact kx E ce q9 H1 locs1 hE (hw.join hk1 hP1 hD1 hS) hcell hv hcl
  · obtain ⟨hP1, hK1', hD1⟩ := hB
    rw [ht] at hP1
    exact kk r9 H1 locs1 hr9 (hw.join hk1 hP1 hD1 hS)
theorem fcXl (K : MC p s m args meth c cc own nL D tys) (hK1 : va_K D vwCl tys1 s) (hw : WD D A H0 (w1 ++ w2) H locs) {y : MethodName} {b : ByteArray} {mL idx : Nat} {rm : Room} {bb : Nat} {As : List Value} {cX : Int32 × Int64} {eI eS : Int32} (hC : CXl l y b mL rm D tys1 (.ref bb :: As) w1 cX eI eS) (hl : ls.size = nL) (hG : GoodIn TT (wsV own idx y.cls y (Cond.code y b mL (some .long) :: TT))) (q0 : Nat) {ci : Nat} {r : vw_C} {fs : List Value} (he : w1[q0]? = some (bb, .inr (ci, fs))) (hc : vwCl[ci]? = some r) (hcy : r.1 = y.cls) {na : Nat} (hna : As.length = na) (hd9 : y.cls ≠ "java/lang/invoke/MethodHandle" ∧ y.cls ≠ "java/lang/invoke/VarHandle" ∧ (parseMethodDescriptor y.desc).map (fun d => d.parameters.length) = some na) (hX : XF A s H0) (hrm : rm.cells = 1 ∧ rm.slots = 6) (hcs : cells + 1 ≤ R.cells ∧ slots + 6 ≤ R.slots) (hR : rm.frames + 1 ≤ R.frames ∧ 8 + (mL + 11) + rm.locals ≤ R.locals) {st : List Value} (hst : st = As.reverse ++ .ref bb :: rest) (hre : (rest.map fun v => v.category).sum ≤ 8) (hd : decode cc pc = .ok (.invokevirtual idx, 3))
    (kx : ∀ (E : String) (ce : Cell) (q9 : Addr) (H1 : Heap) (locs1 : List Loc), ((E = nIO ∧ cX = (eI, 0)) ∨ (E = nIS ∧ cX = (eS, 0))) → WD D A H0 (w1 ++ w2) H1 locs1 → H1[q9]? = some ce → ce.vm = .none → s.vm.findClass E = some ce.cls → vx_W p l e R s m args below meth c H1 locs1 (cells + 1) (slots + 6) Q (F0 m pc ls rest) q9)
    (kk : ∀ (r9 : Int64) (H1 : Heap) (locs1 : List Loc), cX = (0, r9) → WD D A H0 (w1 ++ w2) H1 locs1 → W p l e R s m args below meth c H1 locs1 (cells + 1) (slots + 6) Q (F0 m (pc + 3) ls (.long r9 :: rest))) : W p l e R s m args below meth c H locs cells slots Q (F0 m pc ls st) := by
  have hF := wd_free hw.left
  refine vx_calll (vx_runV (As := As) (rest := rest) ⟨K.1, K.2.1, K.2.2.2.2.2.1, K.2.2.2.1, K.2.2.1⟩ (hC H.size) (cwV na K.2.2.1 hG rfl hrm.1 hrm.2 ⟨rfl, hd9⟩ hR) ⟨fun a U g mk q => by obtain ⟨q0, ⟨q1, qP, qK, qD⟩, qX⟩ := q; exact ⟨q0, ⟨q1, qP, va_K.moved (u := U) (U := U.calling g mk a) (Vm.Alike.refl U.vm) qK, qD⟩, XF.call qX⟩, hcy ▸ va_recv hK1 hw.left.1 hc he, fun U hU hW => ⟨rfl, ⟨by rw [hU], by rw [hU]; exact hw.left.1, va_K.moved hW.alike hK1, hw.left.2.1.weaken (fun _ _ _ _ => trivial)⟩, by rw [hU]; exact hX.go hW hw.2.2.1 hF⟩⟩ rfl hna hl hst (lv_room hre) hd hcs) hw.2.2.1 (fun q _ h => hF q h) hF (fun q _ h => hF q h) (fun E ce q9 u t H1 locs1 ht hvm _ hB hz1 hk1 hS hcell hv hcl => ?_) (fun r9 u t H1 locs1 ht hvm hr9 hB hz1 hk1 hS => ?_)
  · obtain ⟨hE, hP1, hK1', hD1⟩ := hB
    rw [ht] at hP1
    exact kx E ce q9 H1 locs1 hE (hw.join hk1 hP1 hD1 hS) hcell hv hcl
  · obtain ⟨hP1, hK1', hD1⟩ := hB
    rw [ht] at hP1
    exact kk r9 H1 locs1 hr9 (hw.join hk1 hP1 hD1 hS)
end KitF
