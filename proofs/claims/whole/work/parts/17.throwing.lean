/-! methods that may throw: IndexOutOfBoundsException, IllegalStateException, without stack traces -/
abbrev nIO : String := "java/lang/IndexOutOfBoundsException"
abbrev nIS : String := "java/lang/IllegalStateException"
abbrev nmX : List String := ["java/lang/RuntimeException", "java/lang/Exception"]
def ini0 (X : String) : MethodName := ⟨X, "<init>", "()V"⟩
def xB : List Cond := [.declares (ini0 "java/lang/RuntimeException"), .declares (ini0 "java/lang/Exception"), .declares (ini0 "java/lang/Throwable"), .castable nIO nIO, .castable nIS nIS, .laysStatic Bundle.tN "UNASSIGNED_STACK" Bundle.steD, .laysStatic Bundle.tN "SUPPRESSED_SENTINEL" Bundle.listD]
theorem xI1 : ∀ w ∈ (vx_at0 RX7 116 nIO nmX).filter goodWord, w ∈ TT := by decide +kernel
theorem xI2 : ∀ w ∈ (vx_at0 RX7 116 nIO nmX).filter (fun w => !goodWord w), w ∈ xB := by decide +kernel
theorem xS1 : ∀ w ∈ (vx_at0 RX7 129 nIS nmX).filter goodWord, w ∈ TT := by decide +kernel
theorem xS2 : ∀ w ∈ (vx_at0 RX7 129 nIS nmX).filter (fun w => !goodWord w), w ∈ xB := by decide +kernel
theorem xI3 : ∀ w ∈ Cond.classLink RX7 114 nIO :: Cond.initialized nIO :: vx_at0 RX7 116 nIO nmX, vx_ot w = true := by decide +kernel
theorem xS3 : ∀ w ∈ Cond.classLink RX7 127 nIS :: Cond.initialized nIS :: vx_at0 RX7 129 nIS nmX, vx_ot w = true := by decide +kernel
/-- what a throw needs beside the tables -/
def XF (A : Nat → Prop) (U : State) (H : Heap) : Prop := (va_Nw (.declares (ini0 "java/lang/RuntimeException")) U ∧ va_Nw (.declares (ini0 "java/lang/Exception")) U ∧ va_Nw (.declares (ini0 "java/lang/Throwable")) U ∧ va_Nw (.castable nIO nIO) U ∧ va_Nw (.castable nIS nIS) U) ∧ vx_Zq Bundle.tN "UNASSIGNED_STACK" Bundle.steD A U H ∧ vx_Zq Bundle.tN "SUPPRESSED_SENTINEL" Bundle.listD A U H
theorem XF.at {A : Nat → Prop} {s : State} {args : Array Value} (h : XF A s s.heap) : ∀ w ∈ xB, w.before args s = true :=
  vx_c (va_Nw.use rfl h.1.1) (vx_c (va_Nw.use rfl h.1.2.1) (vx_c (va_Nw.use rfl h.1.2.2.1) (vx_c (va_Nw.use rfl h.1.2.2.2.1) (vx_c (va_Nw.use rfl h.1.2.2.2.2) (vx_c (vx_L.word h.2.1.2) (vx_c (vx_L.word h.2.2.2) vx_n))))))
theorem XF.go {A B : Nat → Prop} {s U : State} {H0 H : Heap} {locs : List Loc} (h : XF A s H0) (hW : s.WarmedH U.vm) (hS : va_S A H0 H locs) (hAB : ∀ q, B q → A q) : XF B U H :=
  ⟨⟨va_Nw.warmD hW h.1.1, va_Nw.warmD hW h.1.2.1, va_Nw.warmD hW h.1.2.2.1, va_Nw.warmC hW h.1.2.2.2.1, va_Nw.warmC hW h.1.2.2.2.2⟩, ((h.2.1.moved hW.alike).kept (fun a h1 h2 => hS.2.1 a h1 h2)).narrow hAB, ((h.2.2.moved hW.alike).kept (fun a h1 h2 => hS.2.1 a h1 h2)).narrow hAB⟩
def PrX (D : va_G) (tys : List (ClassId × FieldType)) (av : List Value) (w : va_W) (sz : Nat) : Array Value → State → Prop := va_Pc av (fun U => (U.heap.size = sz ∧ va_P D vwCl w U.heap ∧ va_K D vwCl tys U ∧ va_D (fun _ => True) w) ∧ XF (va_A w sz) U U.heap)
def XCp {α : Type} (D : va_G) (tys : List (ClassId × FieldType)) (w : va_W) (sz : Nat) (cX : Int32 × α) (z : α) (eI eS : Int32) : String → State → State → Prop := vx_X (fun _ : Unit => True) (fun E _ t => ((E = nIO ∧ cX = (eI, z)) ∨ (E = nIS ∧ cX = (eS, z))) ∧ BoW D tys (va_A w sz) w () t) (va_A w sz)
def CXi (l : Launch) (y : MethodName) (b : ByteArray) (nL : Nat) (rm : Room) (D : va_G) (tys : List (ClassId × FieldType)) (av : List Value) (w : va_W) (cX : Int32 × Int32) (eI eS : Int32) : Prop := ∀ sz : Nat, vx_Met l y (Cond.code y b nL (some .int) :: TT) rm (PrX D tys av w sz) (va_Qi (fun (r : Int32) (_ : Unit) => cX = (0, r)) (BoW D tys (va_A w sz) w) (va_A w sz)) (XCp D tys w sz cX 0 eI eS) 1 6 (va_A w sz)
def CXl (l : Launch) (y : MethodName) (b : ByteArray) (nL : Nat) (rm : Room) (D : va_G) (tys : List (ClassId × FieldType)) (av : List Value) (w : va_W) (cX : Int32 × Int64) (eI eS : Int32) : Prop := ∀ sz : Nat, vx_Met l y (Cond.code y b nL (some .long) :: TT) rm (PrX D tys av w sz) (va_Ql (fun (r : Int64) (_ : Unit) => cX = (0, r)) (BoW D tys (va_A w sz) w) (va_A w sz)) (XCp D tys w sz cX 0 eI eS) 1 6 (va_A w sz)
section KitX
variable {p : Program} {l : Launch} {e : Env} {R : Room} {s : State} {m : MethodId} {args : Array Value} {below : List Frame} {meth : Method} {c : Code} {H : Heap} {locs : List Loc} {Q : State → Prop} {cc : ByteArray} {pc : Nat} {ls : Array Slot} {rest : List Value} {nL : Nat} {D : va_G} {tys : List (ClassId × FieldType)} {w : va_W} {Qc : Array Value → State → Outcome → State → Prop} {α : Type}
theorem thrI {cX : Int32 × α} {z : α} {eI eS : Int32} (hl0 : l.stackTraces = false) (hnx : ∀ x ∈ c.exceptionTable.toList, False) (K : MC p s m args meth c cc RX7 nL D tys) (hX : XF (va_A w s.heap.size) s s.heap) (hw : WD D (va_A w s.heap.size) s.heap w H locs) (hz : ls.size = nL) (ec : cX = (eI, z)) (d0 : decode cc pc = .ok (.new 114, 3)) (d3 : decode cc (pc + 3) = .ok (.dup, 1)) (d4 : decode cc (pc + 4) = .ok (.invokespecial 116, 3)) (d7 : decode cc (pc + 7) = .ok (.athrow, 1)) (hr : 5 < R.frames ∧ (rest.map fun v => v.category).sum + 81 ≤ R.locals ∧ 1 ≤ R.cells ∧ 6 ≤ R.slots) : W p l e R s m args below meth c H locs 0 0 (vx_MQ below Qc (XCp D tys w s.heap.size cX z eI eS) args s 1 6 (va_A w s.heap.size)) (F0 m pc ls rest) :=
  vx_throw0 (cls := nIO) (names := nmX) K.1 K.2.1 hl0 K.2.2.2.1 (by decide +kernel) (by decide +kernel) (K.2.2.1 _ kk_X7_114) (K.2.2.1 _ ki_IndexOutOfBoundsException) (vx_hat (fun w h => K.2.2.1 w (xI1 w h)) xI2 hX.at) xI3 hX.2.1 hX.2.2 hw.2.2.1 (hz.trans K.2.2.2.2.2.1.symm) d0 d3 d4 d7 (fun x hx => (hnx x hx).elim) hr.1 hr.2.1 hr.2.2.1 hr.2.2.2 K.2.2.2.2.2.2 (fun t hvm hle hke => ⟨(), trivial, ⟨Or.inl ⟨rfl, ec⟩, hw.1.kept (fun k q hk => hke q.1 (hw.1 k q hk).lt), va_K.moved hvm K.2.2.2.2.1, hw.2.1⟩, Nat.le_trans hw.2.2.1.1 hle, fun q h1 h2 => (hke q (Nat.lt_of_lt_of_le h1 hw.2.2.1.1)).trans (hw.2.2.1.2.1 q h1 h2)⟩) hw.2.2.1.2.2 (by decide) (by decide)
theorem thrS {cX : Int32 × α} {z : α} {eI eS : Int32} (hl0 : l.stackTraces = false) (hnx : ∀ x ∈ c.exceptionTable.toList, False) (K : MC p s m args meth c cc RX7 nL D tys) (hX : XF (va_A w s.heap.size) s s.heap) (hw : WD D (va_A w s.heap.size) s.heap w H locs) (hz : ls.size = nL) (ec : cX = (eS, z)) (d0 : decode cc pc = .ok (.new 127, 3)) (d3 : decode cc (pc + 3) = .ok (.dup, 1)) (d4 : decode cc (pc + 4) = .ok (.invokespecial 129, 3)) (d7 : decode cc (pc + 7) = .ok (.athrow, 1)) (hr : 5 < R.frames ∧ (rest.map fun v => v.category).sum + 81 ≤ R.locals ∧ 1 ≤ R.cells ∧ 6 ≤ R.slots) : W p l e R s m args below meth c H locs 0 0 (vx_MQ below Qc (XCp D tys w s.heap.size cX z eI eS) args s 1 6 (va_A w s.heap.size)) (F0 m pc ls rest) :=
  vx_throw0 (cls := nIS) (names := nmX) K.1 K.2.1 hl0 K.2.2.2.1 (by decide +kernel) (by decide +kernel) (K.2.2.1 _ kk_X7_127) (K.2.2.1 _ ki_IllegalStateException) (vx_hat (fun w h => K.2.2.1 w (xS1 w h)) xS2 hX.at) xS3 hX.2.1 hX.2.2 hw.2.2.1 (hz.trans K.2.2.2.2.2.1.symm) d0 d3 d4 d7 (fun x hx => (hnx x hx).elim) hr.1 hr.2.1 hr.2.2.1 hr.2.2.2 K.2.2.2.2.2.2 (fun t hvm hle hke => ⟨(), trivial, ⟨Or.inr ⟨rfl, ec⟩, hw.1.kept (fun k q hk => hke q.1 (hw.1 k q hk).lt), va_K.moved hvm K.2.2.2.2.1, hw.2.1⟩, Nat.le_trans hw.2.2.1.1 hle, fun q h1 h2 => (hke q (Nat.lt_of_lt_of_le h1 hw.2.2.1.1)).trans (hw.2.2.1.2.1 q h1 h2)⟩) hw.2.2.1.2.2 (by decide) (by decide)
end KitX
/-- the entry of a method that may throw; its ends: by an answer, by one of the two exceptions -/
theorem en_xi {l : Launch} {y : MethodName} {b : ByteArray} {nL : Nat} {rm : Room} {D : va_G} {tys : List (ClassId × FieldType)} {av : List Value} {w : va_W} {cX : Int32 × Int32} {eI eS : Int32} (hl0 : l.stackTraces = false) (hy : plainName y.cls = true) (hcl : y.cls = RX7) (hn : (lg_sl av).length ≤ nL)
    (h : ∀ {p : Program} {e : Env} {s : State} {m : MethodId} {args : Array Value} {below : List Frame} {meth : Method} {c : Code} {ls : Array Slot} {A : Nat → Prop} {Q : State → Prop}, MC p s m args meth c b RX7 nL D tys → WD D A s.heap w s.heap [] → lv_has ls nL (lv_args 0 av) →
      (∀ {H1 : Heap} {locs1 : List Loc} {pc : Nat} {ls1 : Array Slot} {r1 : Int32}, cX = (0, r1) → WD D A s.heap w H1 locs1 → decode b pc = .ok (.ireturn, 1) → W p l e rm s m args below meth c H1 locs1 0 0 Q (F0 m pc ls1 [.int r1])) →
      (∀ {H1 : Heap} {locs1 : List Loc} {pc : Nat} {ls1 : Array Slot} {rest : List Value}, cX = (eI, 0) → WD D A s.heap w H1 locs1 → ls1.size = nL → decode b pc = .ok (.new 114, 3) → decode b (pc + 3) = .ok (.dup, 1) → decode b (pc + 4) = .ok (.invokespecial 116, 3) → decode b (pc + 7) = .ok (.athrow, 1) → (5 < rm.frames ∧ (rest.map fun v => v.category).sum + 81 ≤ rm.locals ∧ 1 ≤ rm.cells ∧ 6 ≤ rm.slots) → W p l e rm s m args below meth c H1 locs1 0 0 Q (F0 m pc ls1 rest)) →
      (∀ {H1 : Heap} {locs1 : List Loc} {pc : Nat} {ls1 : Array Slot} {rest : List Value}, cX = (eS, 0) → WD D A s.heap w H1 locs1 → ls1.size = nL → decode b pc = .ok (.new 127, 3) → decode b (pc + 3) = .ok (.dup, 1) → decode b (pc + 4) = .ok (.invokespecial 129, 3) → decode b (pc + 7) = .ok (.athrow, 1) → (5 < rm.frames ∧ (rest.map fun v => v.category).sum + 81 ≤ rm.locals ∧ 1 ≤ rm.cells ∧ 6 ≤ rm.slots) → W p l e rm s m args below meth c H1 locs1 0 0 Q (F0 m pc ls1 rest)) →
      W p l e rm s m args below meth c s.heap [] 0 0 Q (F0 m 0 ls [])) : CXi l y b nL rm D tys av w cX eI eS := by
  intro sz
  refine vx_ofW (cc := b) (maxL := nL) (ret := some .int) hy rfl ?_
  intro p e s m args below meth c s₁ B hml hnx hv
  obtain ⟨rfl, ⟨hsz, hP, hK, hD0⟩, hXF⟩ := hv
  subst hsz
  have hts := atoms_spec (ws := Cond.code y b nL (some .int) :: TT) B.pre
  have hl := lv_entry av (n := nL) hn
  rw [lg_entry_eq]
  have K : MC p s m av.toArray meth c b RX7 nL D tys := ⟨B.exec, B.bytes, fun w hw => hts w (List.mem_cons_of_mem _ hw), hcl ▸ findClass_of_methodNamed B.named, hK, hml, B.notSynchronized⟩
  refine h (A := va_A w s.heap.size) K ⟨hP, hD0.self, va_S.rf, fun q h => Or.inr h⟩ hl ?_ ?_ ?_
  · intro H1 locs1 pc ls1 r1 ec hw hd
    refine vx_ret (W.widen (k := 1) (n := 6) (by decide) (by decide) ?_)
    exact W.zret B.exec B.bytes B.returns rfl (fun t ht hW => ⟨⟨r1, (), rfl, ec, by rw [ht]; exact hw.1, va_K.moved hW.alike hK, hw.2.1⟩, hw.2.2.1.F ht⟩) hw.2.2.1.2.2 hd B.notSynchronized
  · intro H1 locs1 pc ls1 rest ec hw hz d0 d3 d4 d7 hr
    exact thrI hl0 hnx K hXF hw hz ec d0 d3 d4 d7 hr
  · intro H1 locs1 pc ls1 rest ec hw hz d0 d3 d4 d7 hr
    exact thrS hl0 hnx K hXF hw hz ec d0 d3 d4 d7 hr
theorem en_xl {l : Launch} {y : MethodName} {b : ByteArray} {nL : Nat} {rm : Room} {D : va_G} {tys : List (ClassId × FieldType)} {av : List Value} {w : va_W} {cX : Int32 × Int64} {eI eS : Int32} (hl0 : l.stackTraces = false) (hy : plainName y.cls = true) (hcl : y.cls = RX7) (hn : (lg_sl av).length ≤ nL)
    (h : ∀ {p : Program} {e : Env} {s : State} {m : MethodId} {args : Array Value} {below : List Frame} {meth : Method} {c : Code} {ls : Array Slot} {A : Nat → Prop} {Q : State → Prop}, MC p s m args meth c b RX7 nL D tys → WD D A s.heap w s.heap [] → lv_has ls nL (lv_args 0 av) →
      (∀ {H1 : Heap} {locs1 : List Loc} {pc : Nat} {ls1 : Array Slot} {r1 : Int64}, cX = (0, r1) → WD D A s.heap w H1 locs1 → decode b pc = .ok (.lreturn, 1) → W p l e rm s m args below meth c H1 locs1 0 0 Q (F0 m pc ls1 [.long r1])) →
      (∀ {H1 : Heap} {locs1 : List Loc} {pc : Nat} {ls1 : Array Slot} {rest : List Value}, cX = (eI, 0) → WD D A s.heap w H1 locs1 → ls1.size = nL → decode b pc = .ok (.new 114, 3) → decode b (pc + 3) = .ok (.dup, 1) → decode b (pc + 4) = .ok (.invokespecial 116, 3) → decode b (pc + 7) = .ok (.athrow, 1) → (5 < rm.frames ∧ (rest.map fun v => v.category).sum + 81 ≤ rm.locals ∧ 1 ≤ rm.cells ∧ 6 ≤ rm.slots) → W p l e rm s m args below meth c H1 locs1 0 0 Q (F0 m pc ls1 rest)) →
      (∀ {H1 : Heap} {locs1 : List Loc} {pc : Nat} {ls1 : Array Slot} {rest : List Value}, cX = (eS, 0) → WD D A s.heap w H1 locs1 → ls1.size = nL → decode b pc = .ok (.new 127, 3) → decode b (pc + 3) = .ok (.dup, 1) → decode b (pc + 4) = .ok (.invokespecial 129, 3) → decode b (pc + 7) = .ok (.athrow, 1) → (5 < rm.frames ∧ (rest.map fun v => v.category).sum + 81 ≤ rm.locals ∧ 1 ≤ rm.cells ∧ 6 ≤ rm.slots) → W p l e rm s m args below meth c H1 locs1 0 0 Q (F0 m pc ls1 rest)) →
      W p l e rm s m args below meth c s.heap [] 0 0 Q (F0 m 0 ls [])) : CXl l y b nL rm D tys av w cX eI eS := by
  intro sz
  refine vx_ofW (cc := b) (maxL := nL) (ret := some .long) hy rfl ?_
  intro p e s m args below meth c s₁ B hml hnx hv
  obtain ⟨rfl, ⟨hsz, hP, hK, hD0⟩, hXF⟩ := hv
  subst hsz
  have hts := atoms_spec (ws := Cond.code y b nL (some .long) :: TT) B.pre
  have hl := lv_entry av (n := nL) hn
  rw [lg_entry_eq]
  have K : MC p s m av.toArray meth c b RX7 nL D tys := ⟨B.exec, B.bytes, fun w hw => hts w (List.mem_cons_of_mem _ hw), hcl ▸ findClass_of_methodNamed B.named, hK, hml, B.notSynchronized⟩
  refine h (A := va_A w s.heap.size) K ⟨hP, hD0.self, va_S.rf, fun q h => Or.inr h⟩ hl ?_ ?_ ?_
  · intro H1 locs1 pc ls1 r1 ec hw hd
    refine vx_ret (W.widen (k := 1) (n := 6) (by decide) (by decide) ?_)
    exact W.lret B.exec B.bytes B.returns (fun t ht hW => ⟨⟨r1, (), rfl, ec, by rw [ht]; exact hw.1, va_K.moved hW.alike hK, hw.2.1⟩, hw.2.2.1.F ht⟩) hw.2.2.1.2.2 hd B.notSynchronized
  · intro H1 locs1 pc ls1 rest ec hw hz d0 d3 d4 d7 hr
    exact thrI hl0 hnx K hXF hw hz ec d0 d3 d4 d7 hr
  · intro H1 locs1 pc ls1 rest ec hw hz d0 d3 d4 d7 hr
    exact thrS hl0 hnx K hXF hw hz ec d0 d3 d4 d7 hr
theorem gx1 {i g : Int32} (hg : 0 ≤ g.toInt ∧ g.toInt ≤ 6000) (h0 : ¬ i < 0) (h1 : ¬ g ≤ i) : vp_in i 6000 := by
  rw [Int32.lt_iff_toInt_lt] at h0
  rw [Int32.le_iff_toInt_le] at h1
  have e0 : (0 : Int32).toInt = 0 := rfl
  exact vp_in_iff.mpr (by omega)
theorem gx2 {v N : Int32} {b : Int} (h0 : ¬ v < 0) (h : v ≤ N) (hN : N.toInt = b) : 0 ≤ v.toInt ∧ v.toInt ≤ b := by
  rw [Int32.lt_iff_toInt_lt] at h0
  rw [Int32.le_iff_toInt_le] at h
  have : (0 : Int32).toInt = 0 := rfl
  omega
theorem gx3 {i d : Int32} (hd : 0 ≤ d.toInt ∧ d.toInt ≤ 20) (h0 : ¬ i < 0) (h1 : i < d) : vp_in i 20 := by
  rw [Int32.lt_iff_toInt_lt] at h0 h1
  have e0 : (0 : Int32).toInt = 0 := rfl
  exact vp_in_iff.mpr (by omega)
def f_X7_glyph (σ0 : PS) (x1 : Int32) (x2 : Int32) : Int32 × Int32 := (if x1 < 0 then (1, 0) else (if (σ0.1 31) ≤ x1 then (1, 0) else (if x2 < 0 then (1, 0) else (if x2 ≤ 3 then (0, (f_X6_partOf σ0 x1 x2)) else (1, 0)))))
abbrev rm_X7_glyph : Room := { frames := 6, cells := 1, slots := 6, locals := 90 }
set_option maxHeartbeats 4000000 in
set_option maxRecDepth 100000 in
theorem c_X7_glyph (l : Launch) (hl0 : l.stackTraces = false) (D : va_G) (a : Nat → Nat) (cA : Nat → ClassId) (σ0 : PS) (x1 : Int32) (x2 : Int32) (hI : Bx σ0) : CXi l yX7_glyph cX7_glyph 3 rm_X7_glyph D (pdT cA) [.ref (a 0), .int x1, .int x2] (pdW a cA σ0) (f_X7_glyph σ0 x1 x2) 1 9 := by
  refine en_xi hl0 (by decide +kernel) rfl (Nat.le_of_ble_eq_true rfl) ?_
  intro p e s m args below meth c ls A Q K hw hl ret thrI thrS
  have hl : lv_has ls 3 [(0, .ref (a 0)), (1, .int x1), (2, .int x2)] := hl
  refine lv_iload_n K.1 K.2.1 dX7_glyph_0 rfl (lv_at hl 1 rfl) ?_
  refine lv_if_lt (tgt := 24) K.1 K.2.1 dX7_glyph_1 (by decide) (fun c1 => ?_) (fun c1 => ?_)
  · exact thrI (by exact (Eq.trans (if_pos c1) rfl)) hw hl.1 dX7_glyph_24 dX7_glyph_27 dX7_glyph_28 dX7_glyph_31 ⟨by decide, Nat.le_of_ble_eq_true rfl, by decide, by decide⟩
  · refine lv_iload_n K.1 K.2.1 dX7_glyph_4 rfl (lv_at hl 1 rfl) ?_
    refine lv_aload_n K.1 K.2.1 dX7_glyph_5 rfl (lv_at hl 0 rfl) ?_
    refine gD_0_5 K hw kf_X7_41 dX7_glyph_6 ?_
    refine gD_4_1 K hw kf_X7_111 dX7_glyph_9 ?_
    refine lv_icmp_ge (tgt := 24) K.1 K.2.1 dX7_glyph_12 (by decide) (fun c12 => ?_) (fun c12 => ?_)
    · exact thrI (by exact (Eq.trans (if_neg c1) (Eq.trans (if_pos c12) rfl))) hw hl.1 dX7_glyph_24 dX7_glyph_27 dX7_glyph_28 dX7_glyph_31 ⟨by decide, Nat.le_of_ble_eq_true rfl, by decide, by decide⟩
    · refine lv_iload_n K.1 K.2.1 dX7_glyph_15 rfl (lv_at hl 2 rfl) ?_
      refine lv_if_lt (tgt := 24) K.1 K.2.1 dX7_glyph_16 (by decide) (fun c16 => ?_) (fun c16 => ?_)
      · exact thrI (by exact (Eq.trans (if_neg c1) (Eq.trans (if_neg c12) (Eq.trans (if_pos c16) rfl)))) hw hl.1 dX7_glyph_24 dX7_glyph_27 dX7_glyph_28 dX7_glyph_31 ⟨by decide, Nat.le_of_ble_eq_true rfl, by decide, by decide⟩
      · refine lv_iload_n K.1 K.2.1 dX7_glyph_19 rfl (lv_at hl 2 rfl) ?_
        refine lv_iconst (v := 3) K.1 K.2.1 dX7_glyph_20 (by decide) ?_
        refine lv_icmp_le (tgt := 32) K.1 K.2.1 dX7_glyph_21 (by decide) (fun c21 => ?_) (fun c21 => ?_)
        · refine lv_aload_n K.1 K.2.1 dX7_glyph_32 rfl (lv_at hl 0 rfl) ?_
          refine gD_0_5 K hw kf_X7_41 dX7_glyph_33 ?_
          refine lv_iload_n K.1 K.2.1 dX7_glyph_36 rfl (lv_at hl 1 rfl) ?_
          refine lv_iload_n K.1 K.2.1 dX7_glyph_37 rfl (lv_at hl 2 rfl) ?_
          refine caI K hw (c_X6_partOf l D a cA _ _ _ (gx1 (bxg_31 (σ := σ0) hI) c1 c12)) hl.1 (tt_V km_X7_117 kI_X6_partOf ks_X6_partOf ki_X6 kC_X6_partOf) 4 (ci := 6) rfl rfl rfl (na := 2) rfl (by decide +kernel) ⟨rfl, rfl⟩ (by decide) ⟨Nat.zero_le _, Nat.zero_le _⟩ rfl (Nat.le_of_ble_eq_true rfl) dX7_glyph_38 (fun H locs hw => ?_)
          exact ret (by exact (Eq.trans (if_neg c1) (Eq.trans (if_neg c12) (Eq.trans (if_neg c16) (Eq.trans (if_pos c21) rfl))))) hw dX7_glyph_41
        · exact thrI (by exact (Eq.trans (if_neg c1) (Eq.trans (if_neg c12) (Eq.trans (if_neg c16) (Eq.trans (if_neg c21) rfl))))) hw hl.1 dX7_glyph_24 dX7_glyph_27 dX7_glyph_28 dX7_glyph_31 ⟨by decide, Nat.le_of_ble_eq_true rfl, by decide, by decide⟩
def f_X7_page (σ0 : PS) (x1 : Int32) (x2 : Int32) : Int32 × Int32 := (if (f_X0_has σ0 x1) = 0 then (1, 0) else (if x2 < 0 then (1, 0) else (if x2 ≤ 3 then (0, (f_X0_partOf σ0 x1 x2)) else (1, 0))))
abbrev rm_X7_page : Room := { frames := 6, cells := 1, slots := 6, locals := 90 }
set_option maxHeartbeats 4000000 in
set_option maxRecDepth 100000 in
theorem c_X7_page (l : Launch) (hl0 : l.stackTraces = false) (D : va_G) (a : Nat → Nat) (cA : Nat → ClassId) (σ0 : PS) (x1 : Int32) (x2 : Int32) : CXi l yX7_page cX7_page 3 rm_X7_page D (pdT cA) [.ref (a 0), .int x1, .int x2] (pdW a cA σ0) (f_X7_page σ0 x1 x2) 1 9 := by
  refine en_xi hl0 (by decide +kernel) rfl (Nat.le_of_ble_eq_true rfl) ?_
  intro p e s m args below meth c ls A Q K hw hl ret thrI thrS
  have hl : lv_has ls 3 [(0, .ref (a 0)), (1, .int x1), (2, .int x2)] := hl
  refine lv_aload_n K.1 K.2.1 dX7_page_0 rfl (lv_at hl 0 rfl) ?_
  refine gD_0_6 K hw kf_X7_48 dX7_page_1 ?_
  refine lv_iload_n K.1 K.2.1 dX7_page_4 rfl (lv_at hl 1 rfl) ?_
  refine caI K hw (c_X0_has l D a cA _ _) hl.1 (tt_V km_X7_121 kI_X0_has ks_X0_has ki_X0 kC_X0_has) 5 (ci := 0) rfl rfl rfl (na := 1) rfl (by decide +kernel) ⟨rfl, rfl⟩ (by decide) ⟨Nat.zero_le _, Nat.zero_le _⟩ rfl (Nat.le_of_ble_eq_true rfl) dX7_page_5 (fun H locs hw => ?_)
  refine lv_if_eq (tgt := 20) K.1 K.2.1 dX7_page_8 (by decide) (fun c8 => ?_) (fun c8 => ?_)
  · exact thrI (by exact (Eq.trans (if_pos c8) rfl)) hw hl.1 dX7_page_20 dX7_page_23 dX7_page_24 dX7_page_27 ⟨by decide, Nat.le_of_ble_eq_true rfl, by decide, by decide⟩
  · refine lv_iload_n K.1 K.2.1 dX7_page_11 rfl (lv_at hl 2 rfl) ?_
    refine lv_if_lt (tgt := 20) K.1 K.2.1 dX7_page_12 (by decide) (fun c12 => ?_) (fun c12 => ?_)
    · exact thrI (by exact (Eq.trans (if_neg c8) (Eq.trans (if_pos c12) rfl))) hw hl.1 dX7_page_20 dX7_page_23 dX7_page_24 dX7_page_27 ⟨by decide, Nat.le_of_ble_eq_true rfl, by decide, by decide⟩
    · refine lv_iload_n K.1 K.2.1 dX7_page_15 rfl (lv_at hl 2 rfl) ?_
      refine lv_iconst (v := 3) K.1 K.2.1 dX7_page_16 (by decide) ?_
      refine lv_icmp_le (tgt := 28) K.1 K.2.1 dX7_page_17 (by decide) (fun c17 => ?_) (fun c17 => ?_)
      · refine lv_aload_n K.1 K.2.1 dX7_page_28 rfl (lv_at hl 0 rfl) ?_
        refine gD_0_6 K hw kf_X7_48 dX7_page_29 ?_
        refine lv_iload_n K.1 K.2.1 dX7_page_32 rfl (lv_at hl 1 rfl) ?_
        refine lv_iload_n K.1 K.2.1 dX7_page_33 rfl (lv_at hl 2 rfl) ?_
        refine caI K hw (c_X0_partOf l D a cA _ _ _ (gx2 c12 c17 rfl)) hl.1 (tt_V km_X7_125 kI_X0_partOf ks_X0_partOf ki_X0 kC_X0_partOf) 5 (ci := 0) rfl rfl rfl (na := 2) rfl (by decide +kernel) ⟨rfl, rfl⟩ (by decide) ⟨Nat.zero_le _, Nat.zero_le _⟩ rfl (Nat.le_of_ble_eq_true rfl) dX7_page_34 (fun H locs hw => ?_)
        exact ret (by exact (Eq.trans (if_neg c8) (Eq.trans (if_neg c12) (Eq.trans (if_pos c17) rfl)))) hw dX7_page_37
      · exact thrI (by exact (Eq.trans (if_neg c8) (Eq.trans (if_neg c12) (Eq.trans (if_neg c17) rfl)))) hw hl.1 dX7_page_20 dX7_page_23 dX7_page_24 dX7_page_27 ⟨by decide, Nat.le_of_ble_eq_true rfl, by decide, by decide⟩
def f_X7_other (σ0 : PS) (x1 : Int32) : Int32 × Int32 := (if (σ0.1 35) = 0 then (1, 0) else (if x1 < 0 then (2, 0) else (if x1 ≤ 6 then (0, (f_X3_firstPart σ0 x1)) else (2, 0))))
abbrev rm_X7_other : Room := { frames := 6, cells := 1, slots := 6, locals := 90 }
set_option maxHeartbeats 4000000 in
set_option maxRecDepth 100000 in
theorem c_X7_other (l : Launch) (hl0 : l.stackTraces = false) (D : va_G) (a : Nat → Nat) (cA : Nat → ClassId) (σ0 : PS) (x1 : Int32) (hI : Bx σ0) : CXi l yX7_other cX7_other 2 rm_X7_other D (pdT cA) [.ref (a 0), .int x1] (pdW a cA σ0) (f_X7_other σ0 x1) 2 1 := by
  refine en_xi hl0 (by decide +kernel) rfl (Nat.le_of_ble_eq_true rfl) ?_
  intro p e s m args below meth c ls A Q K hw hl ret thrI thrS
  have hl : lv_has ls 2 [(0, .ref (a 0)), (1, .int x1)] := hl
  refine lv_aload_n K.1 K.2.1 dX7_other_0 rfl (lv_at hl 0 rfl) ?_
  refine gD_0_7 K hw kf_X7_55 dX7_other_1 ?_
  refine gD_6_2 K hw kf_X7_126 dX7_other_4 ?_
  refine lv_if_ne (tgt := 18) K.1 K.2.1 dX7_other_7 (by decide) (fun c7 => ?_) (fun c7 => ?_)
  · refine lv_iload_n K.1 K.2.1 dX7_other_18 rfl (lv_at hl 1 rfl) ?_
    refine lv_if_lt (tgt := 28) K.1 K.2.1 dX7_other_19 (by decide) (fun c19 => ?_) (fun c19 => ?_)
    · exact thrI (by exact (Eq.trans (if_neg c7) (Eq.trans (if_pos c19) rfl))) hw hl.1 dX7_other_28 dX7_other_31 dX7_other_32 dX7_other_35 ⟨by decide, Nat.le_of_ble_eq_true rfl, by decide, by decide⟩
    · refine lv_iload_n K.1 K.2.1 dX7_other_22 rfl (lv_at hl 1 rfl) ?_
      refine lv_bipush (v := 6) K.1 K.2.1 dX7_other_23 (by decide) ?_
      refine lv_icmp_le (tgt := 36) K.1 K.2.1 dX7_other_25 (by decide) (fun c25 => ?_) (fun c25 => ?_)
      · refine lv_aload_n K.1 K.2.1 dX7_other_36 rfl (lv_at hl 0 rfl) ?_
        refine gD_0_7 K hw kf_X7_55 dX7_other_37 ?_
        refine lv_iload_n K.1 K.2.1 dX7_other_40 rfl (lv_at hl 1 rfl) ?_
        refine caI K hw (c_X3_firstPart l D a cA _ _ hI) hl.1 (tt_V km_X7_130 kI_X3_firstPart ks_X3_firstPart ki_X3 kC_X3_firstPart) 6 (ci := 3) rfl rfl rfl (na := 1) rfl (by decide +kernel) ⟨rfl, rfl⟩ (by decide) ⟨Nat.zero_le _, Nat.zero_le _⟩ rfl (Nat.le_of_ble_eq_true rfl) dX7_other_41 (fun H locs hw => ?_)
        exact ret (by exact (Eq.trans (if_neg c7) (Eq.trans (if_neg c19) (Eq.trans (if_pos c25) rfl)))) hw dX7_other_44
      · exact thrI (by exact (Eq.trans (if_neg c7) (Eq.trans (if_neg c19) (Eq.trans (if_neg c25) rfl)))) hw hl.1 dX7_other_28 dX7_other_31 dX7_other_32 dX7_other_35 ⟨by decide, Nat.le_of_ble_eq_true rfl, by decide, by decide⟩
  · exact thrS (by exact (Eq.trans (if_pos c7) rfl)) hw hl.1 dX7_other_10 dX7_other_13 dX7_other_14 dX7_other_17 ⟨by decide, Nat.le_of_ble_eq_true rfl, by decide, by decide⟩
def f_X7_data (σ0 : PS) (x1 : Int32) : Int32 × Int64 := (if (σ0.1 35) = 0 then (1, 0) else (0, (f_X3_firstEightBytes σ0 x1)))
abbrev rm_X7_data : Room := { frames := 6, cells := 1, slots := 6, locals := 90 }
set_option maxHeartbeats 4000000 in
set_option maxRecDepth 100000 in
theorem c_X7_data (l : Launch) (hl0 : l.stackTraces = false) (D : va_G) (a : Nat → Nat) (cA : Nat → ClassId) (σ0 : PS) (x1 : Int32) (hI : Bx σ0) : CXl l yX7_data cX7_data 2 rm_X7_data D (pdT cA) [.ref (a 0), .int x1] (pdW a cA σ0) (f_X7_data σ0 x1) 9 1 := by
  refine en_xl hl0 (by decide +kernel) rfl (Nat.le_of_ble_eq_true rfl) ?_
  intro p e s m args below meth c ls A Q K hw hl ret thrI thrS
  have hl : lv_has ls 2 [(0, .ref (a 0)), (1, .int x1)] := hl
  refine lv_aload_n K.1 K.2.1 dX7_data_0 rfl (lv_at hl 0 rfl) ?_
  refine gD_0_7 K hw kf_X7_55 dX7_data_1 ?_
  refine gD_6_2 K hw kf_X7_126 dX7_data_4 ?_
  refine lv_if_ne (tgt := 18) K.1 K.2.1 dX7_data_7 (by decide) (fun c7 => ?_) (fun c7 => ?_)
  · refine lv_aload_n K.1 K.2.1 dX7_data_18 rfl (lv_at hl 0 rfl) ?_
    refine gD_0_7 K hw kf_X7_55 dX7_data_19 ?_
    refine lv_iload_n K.1 K.2.1 dX7_data_22 rfl (lv_at hl 1 rfl) ?_
    refine caL K hw (c_X3_firstEightBytes l D a cA _ _ hI) hl.1 (tt_V km_X7_134 kI_X3_firstEightBytes ks_X3_firstEightBytes ki_X3 kC_X3_firstEightBytes) 6 (ci := 3) rfl rfl rfl (na := 1) rfl (by decide +kernel) ⟨rfl, rfl⟩ (by decide) ⟨Nat.zero_le _, Nat.zero_le _⟩ rfl (Nat.le_of_ble_eq_true rfl) dX7_data_23 (fun H locs hw => ?_)
    exact ret (by exact (Eq.trans (if_neg c7) rfl)) hw dX7_data_26
  · exact thrS (by exact (Eq.trans (if_pos c7) rfl)) hw hl.1 dX7_data_10 dX7_data_13 dX7_data_14 dX7_data_17 ⟨by decide, Nat.le_of_ble_eq_true rfl, by decide, by decide⟩
def f_X7_place (σ0 : PS) (x1 : Int32) (x2 : Int32) : Int32 × Int32 := (if x1 < 0 then (1, 0) else (if x1 < (σ0.1 30) then (if x2 = 0 then (0, (σ0.2.1 1 (Int32.toNatClampNeg x1))) else (0, (σ0.2.1 2 (Int32.toNatClampNeg x1)))) else (1, 0)))
abbrev rm_X7_place : Room := { frames := 6, cells := 1, slots := 6, locals := 90 }
set_option maxHeartbeats 4000000 in
set_option maxRecDepth 100000 in
theorem c_X7_place (l : Launch) (hl0 : l.stackTraces = false) (D : va_G) (a : Nat → Nat) (cA : Nat → ClassId) (σ0 : PS) (x1 : Int32) (x2 : Int32) (hI : Bx σ0) : CXi l yX7_place cX7_place 3 rm_X7_place D (pdT cA) [.ref (a 0), .int x1, .int x2] (pdW a cA σ0) (f_X7_place σ0 x1 x2) 1 9 := by
  refine en_xi hl0 (by decide +kernel) rfl (Nat.le_of_ble_eq_true rfl) ?_
  intro p e s m args below meth c ls A Q K hw hl ret thrI thrS
  have hl : lv_has ls 3 [(0, .ref (a 0)), (1, .int x1), (2, .int x2)] := hl
  refine lv_iload_n K.1 K.2.1 dX7_place_0 rfl (lv_at hl 1 rfl) ?_
  refine lv_if_lt (tgt := 15) K.1 K.2.1 dX7_place_1 (by decide) (fun c1 => ?_) (fun c1 => ?_)
  · exact thrI (by exact (Eq.trans (if_pos c1) rfl)) hw hl.1 dX7_place_15 dX7_place_18 dX7_place_19 dX7_place_22 ⟨by decide, Nat.le_of_ble_eq_true rfl, by decide, by decide⟩
  · refine lv_iload_n K.1 K.2.1 dX7_place_4 rfl (lv_at hl 1 rfl) ?_
    refine lv_aload_n K.1 K.2.1 dX7_place_5 rfl (lv_at hl 0 rfl) ?_
    refine gD_0_2 K hw kf_X7_26 dX7_place_6 ?_
    refine gD_3_12 K hw kf_X7_142 dX7_place_9 ?_
    refine lv_icmp_lt (tgt := 23) K.1 K.2.1 dX7_place_12 (by decide) (fun c12 => ?_) (fun c12 => ?_)
    · refine lv_iload_n K.1 K.2.1 dX7_place_23 rfl (lv_at hl 2 rfl) ?_
      refine lv_if_eq (tgt := 39) K.1 K.2.1 dX7_place_24 (by decide) (fun c24 => ?_) (fun c24 => ?_)
      · refine lv_aload_n K.1 K.2.1 dX7_place_39 rfl (lv_at hl 0 rfl) ?_
        refine gD_0_2 K hw kf_X7_26 dX7_place_40 ?_
        refine gD_3_13 K hw kf_X7_148 dX7_place_43 ?_
        refine lv_iload_n K.1 K.2.1 dX7_place_46 rfl (lv_at hl 1 rfl) ?_
        refine lD_8 K hw (gx3 (bxg_30 (σ := σ0) hI) c1 c12) rfl dX7_place_47 ?_
        exact ret (by exact (Eq.trans (if_neg c1) (Eq.trans (if_pos c12) (Eq.trans (if_pos c24) rfl)))) hw dX7_place_48
      · refine lv_aload_n K.1 K.2.1 dX7_place_27 rfl (lv_at hl 0 rfl) ?_
        refine gD_0_2 K hw kf_X7_26 dX7_place_28 ?_
        refine gD_3_14 K hw kf_X7_145 dX7_place_31 ?_
        refine lv_iload_n K.1 K.2.1 dX7_place_34 rfl (lv_at hl 1 rfl) ?_
        refine lD_9 K hw (gx3 (bxg_30 (σ := σ0) hI) c1 c12) rfl dX7_place_35 ?_
        refine lv_goto (tgt := 48) K.1 K.2.1 dX7_place_36 (by decide) ?_
        exact ret (by exact (Eq.trans (if_neg c1) (Eq.trans (if_pos c12) (Eq.trans (if_neg c24) rfl)))) hw dX7_place_48
    · exact thrI (by exact (Eq.trans (if_neg c1) (Eq.trans (if_neg c12) rfl))) hw hl.1 dX7_place_15 dX7_place_18 dX7_place_19 dX7_place_22 ⟨by decide, Nat.le_of_ble_eq_true rfl, by decide, by decide⟩
