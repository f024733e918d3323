/-! the law's helpers, which catch -/
def outC (o : Nat) (cO : ClassId) (g : Nat → Int64) : Nat × va_E := (o, .inl (cO, 1, .inr (.inl g)))
def PrH (D : va_G) (tys : List (ClassId × FieldType)) (av : List Value) (w : va_W) (sz : Nat) : Array Value → State → Prop := va_Pc av (fun U => (U.heap.size = sz ∧ va_P D vwCl w U.heap ∧ va_K D vwCl tys U ∧ va_D (fun _ => True) w) ∧ XF (va_A w sz) U U.heap ∧ va_Nc nIO nIS U)
def CH (l : Launch) (y : MethodName) (b : ByteArray) (nL : Nat) (hh : List (Nat × Nat × Nat × Nat)) (rm : Room) (D : va_G) (tys : List (ClassId × FieldType)) (av : List Value) (wp : va_W) (o : Nat) (cO : ClassId) (g : Nat → Int64) (P : Int32 → (Nat → Int64) → Prop) : Prop := ∀ sz : Nat, Met l y (Cond.codeWith y b nL (some .int) hh :: TT) rm (PrH D tys av (wp ++ [outC o cO g]) sz) (va_Qi (fun (r : Int32) (u : Nat → Int64) => P r u) (fun u t => BoW D tys (va_A (wp ++ [outC o cO g]) sz) (wp ++ [outC o cO u]) () t) (va_A (wp ++ [outC o cO g]) sz)) 1 6 (va_A (wp ++ [outC o cO g]) sz)
theorem en_h {l : Launch} {y : MethodName} {b : ByteArray} {nL : Nat} {hh : List (Nat × Nat × Nat × Nat)} {rm : Room} {D : va_G} {tys : List (ClassId × FieldType)} {av : List Value} {wp : va_W} {o : Nat} {cO : ClassId} {g : Nat → Int64} {P : Int32 → (Nat → Int64) → Prop} (hy : plainName y.cls = true) (hcl : y.cls = RL) (hn : (lg_sl av).length ≤ nL)
    (h : ∀ {p : Program} {e : Env} {s : State} {m : MethodId} {args : Array Value} {below : List Frame} {meth : Method} {c : Code} {A : Nat → Prop} {ls : Array Slot} {Q : State → Prop}, MC p s m args meth c b RL nL D tys → c.exceptionTable.toList = tableOf hh → XF A s s.heap → va_Nc nIO nIS s → WD D A s.heap (wp ++ [outC o cO g]) s.heap [] → lv_has ls nL (lv_args 0 av) → (∀ {u : Nat → Int64} {H1 : Heap} {locs1 : List Loc} {pc : Nat} {ls1 : Array Slot} {r1 : Int32}, P r1 u → WD D A s.heap (wp ++ [outC o cO u]) H1 locs1 → decode b pc = .ok (.ireturn, 1) → W p l e rm s m args below meth c H1 locs1 1 6 Q (F0 m pc ls1 [.int r1])) → W p l e rm s m args below meth c s.heap [] 0 0 Q (F0 m 0 ls [])) : CH l y b nL hh rm D tys av wp o cO g P := by
  intro sz
  refine va_MetW (cc := b) (maxL := nL) (ret := some .int) (hh := hh) hy rfl ?_
  intro p e s m args below meth c s₁ B hml hv
  obtain ⟨rfl, ⟨hsz, hP, hK, hD0⟩, hXF, hNc⟩ := hv
  subst hsz
  have hts := atoms_spec (ws := Cond.codeWith y b nL (some .int) hh :: TT) B.pre
  have hl := lv_entry av (n := nL) hn
  rw [lg_entry_eq]
  refine h (A := va_A (wp ++ [outC o cO g]) s.heap.size) ⟨B.exec, B.bytes, fun w hw => hts w (List.mem_cons_of_mem _ hw), hcl ▸ findClass_of_methodNamed B.named, hK, hml, B.notSynchronized⟩ (vx_table (x := y) B (hts _ List.mem_cons_self)) hXF hNc ⟨hP, hD0.self, va_S.rf, fun q h => Or.inr h⟩ hl ?_
  intro u H1 locs1 pc ls1 r1 hp hw hd
  exact W.zret B.exec B.bytes B.returns rfl (fun t ht hW => ⟨⟨r1, u, rfl, hp, by rw [ht]; exact hw.1, va_K.moved hW.alike hK, hw.2.1⟩, hw.2.2.1.F ht⟩) hw.2.2.1.2.2 hd B.notSynchronized
theorem pdW_len {a : Nat → Nat} {cA : Nat → ClassId} {σ : PS} : (pdW a cA σ).length = 41 := by simp [pdW, pdF, pdO]
theorem outAt {w : va_W} {x : Nat × va_E} {n : Nat} (h : w.length = n) : (w ++ [x])[n]? = some x := by subst h; simp
theorem outSet {w : va_W} {x y : Nat × va_E} {n : Nat} (h : w.length = n) : (w ++ [x]).set n y = w ++ [y] := by subst h; simp
theorem vaK_left {D : va_G} {cl : List vw_C} {t1 t2 : List (ClassId × FieldType)} {U : State} (h : va_K D cl (t1 ++ t2) U) : va_K D cl t1 U := ⟨h.1, fun k q hk => h.2 k q (by rw [List.getElem?_append_left (List.getElem?_eq_some_iff.mp hk).1]; exact hk)⟩
theorem vaK_right {D : va_G} {cl : List vw_C} {t1 t2 : List (ClassId × FieldType)} {U : State} (h : va_K D cl (t1 ++ t2) U) : va_K D cl t2 U := ⟨h.1, fun k q hk => h.2 (t1.length + k) q (by rw [List.getElem?_append_right (Nat.le_add_right _ _), Nat.add_sub_cancel_left]; exact hk)⟩
def hP {α : Type} (cX : Int32 × α) (f : α → Int64) (r : Int32) (u : Nat → Int64) : Prop := r = cX.1 ∧ (cX.1 = 0 → u 0 = f cX.2)
theorem kW_L_glyph : Cond.codeWith yL_glyph cL_glyph 5 (some .int) [(0, 10, 13, 13)] ∈ TT := tt_m (List.mem_of_getElem? (i := 675) (by decide +kernel)) rfl
abbrev rm_L_glyph : Room := { frames := 7 + 0, cells := 1, slots := 6, locals := 140 }
set_option maxHeartbeats 4000000 in
set_option maxRecDepth 100000 in
theorem c_L_glyph (l : Launch) (hl0 : l.stackTraces = false) (D : va_G) (a : Nat → Nat) (cA : Nat → ClassId) (o : Nat) (cO : ClassId) (g : Nat → Int64) (σ0 : PS) (x1 : Int32) (x2 : Int32) (hI : Bx σ0) : CH l yL_glyph cL_glyph 5 [(0, 10, 13, 13)] rm_L_glyph D (pdT cA ++ [(cO, .long)]) [.ref (a 0), .int x1, .int x2, .ref o] (pdW a cA σ0) o cO g (hP (f_X7_glyph σ0 x1 x2) Int32.toInt64) := by
  refine en_h (by decide +kernel) rfl (Nat.le_of_ble_eq_true rfl) ?_
  intro p e s m args below meth c A ls Q K hT hX hNc hw hl ret
  have hl : lv_has ls 5 [(0, .ref (a 0)), (1, .int x1), (2, .int x2), (3, .ref o)] := hl
  refine lv_aload_n K.1 K.2.1 dL_glyph_0 rfl (lv_at hl 3 rfl) ?_
  refine lv_iconst (v := 0) K.1 K.2.1 dL_glyph_1 (by decide) ?_
  refine lv_aload_n K.1 K.2.1 dL_glyph_2 rfl (lv_at hl 0 rfl) ?_
  refine lv_iload_n K.1 K.2.1 dL_glyph_3 rfl (lv_at hl 1 rfl) ?_
  refine lv_iload_n K.1 K.2.1 dL_glyph_4 rfl (lv_at hl 2 rfl) ?_
  refine fcXi K (vaK_left K.2.2.2.2.1) hw (c_X7_glyph l hl0 D a cA σ0 x1 x2 hI) hl.1 (tt_V km_L_7 kI_X7_glyph ks_X7_glyph ki_X7 kC_X7_glyph) 0 (ci := 7) rfl rfl rfl (na := 2) rfl (by decide +kernel) hX ⟨rfl, rfl⟩ ⟨Nat.le_of_ble_eq_true rfl, Nat.le_of_ble_eq_true rfl⟩ ⟨by decide, by decide⟩ rfl (Nat.le_of_ble_eq_true rfl) dL_glyph_5 (fun E ce q9 H locs hE hw hcell hv hcl => ?_) (fun r9 H locs hc hw => ?_)
  · rcases hE with ⟨rfl, hc⟩ | ⟨rfl, hc⟩
    · refine vx_catch K.2.2.2.1 [] ⟨0, 10, 13, 13⟩ [] hT (fun z h => nomatch h) rfl (by decide) (K.2.2.1 _ kk_L_13) (va_Nw.use rfl hX.1.2.2.2.1) hcell hv hcl ?_
      refine lv_astore (lv' := [(4, .ref q9), (0, .ref (a 0)), (1, .int x1), (2, .int x2), (3, .ref o)]) K.1 K.2.1 dL_glyph_13 hl (by decide) rfl (fun ls hl => ?_)
      refine lv_iconst (v := 1) K.1 K.2.1 dL_glyph_15 (by decide) ?_
      exact ret (u := g) ⟨by rw [hc], fun h9 => by rw [hc] at h9; exact absurd h9 (by decide)⟩ hw dL_glyph_16
    · exfalso; revert hc; simp only [f_X7_glyph]; (repeat' split) <;> simp
  · refine lv_i2l K.1 K.2.1 dL_glyph_8 rfl ?_
    refine gJs K hw 41 15 (outAt pdW_len) rfl (vi_0 (by decide)) dL_glyph_9 (fun H locs hw => ?_)
    have hw := (outSet (x := outC o cO g) (pdW_len (a := a) (cA := cA) (σ := σ0))) ▸ hw
    refine lv_goto (tgt := 17) K.1 K.2.1 dL_glyph_10 (by decide) ?_
    refine lv_iconst (v := 0) K.1 K.2.1 dL_glyph_17 (by decide) ?_
    exact ret ⟨by rw [hc], fun _ => by rw [hc]; rfl⟩ hw dL_glyph_18
theorem kW_L_page : Cond.codeWith yL_page cL_page 5 (some .int) [(0, 10, 13, 13)] ∈ TT := tt_m (List.mem_of_getElem? (i := 750) (by decide +kernel)) rfl
abbrev rm_L_page : Room := { frames := 7 + 0, cells := 1, slots := 6, locals := 140 }
set_option maxHeartbeats 4000000 in
set_option maxRecDepth 100000 in
theorem c_L_page (l : Launch) (hl0 : l.stackTraces = false) (D : va_G) (a : Nat → Nat) (cA : Nat → ClassId) (o : Nat) (cO : ClassId) (g : Nat → Int64) (σ0 : PS) (x1 : Int32) (x2 : Int32) : CH l yL_page cL_page 5 [(0, 10, 13, 13)] rm_L_page D (pdT cA ++ [(cO, .long)]) [.ref (a 0), .int x1, .int x2, .ref o] (pdW a cA σ0) o cO g (hP (f_X7_page σ0 x1 x2) Int32.toInt64) := by
  refine en_h (by decide +kernel) rfl (Nat.le_of_ble_eq_true rfl) ?_
  intro p e s m args below meth c A ls Q K hT hX hNc hw hl ret
  have hl : lv_has ls 5 [(0, .ref (a 0)), (1, .int x1), (2, .int x2), (3, .ref o)] := hl
  refine lv_aload_n K.1 K.2.1 dL_page_0 rfl (lv_at hl 3 rfl) ?_
  refine lv_iconst (v := 0) K.1 K.2.1 dL_page_1 (by decide) ?_
  refine lv_aload_n K.1 K.2.1 dL_page_2 rfl (lv_at hl 0 rfl) ?_
  refine lv_iload_n K.1 K.2.1 dL_page_3 rfl (lv_at hl 1 rfl) ?_
  refine lv_iload_n K.1 K.2.1 dL_page_4 rfl (lv_at hl 2 rfl) ?_
  refine fcXi K (vaK_left K.2.2.2.2.1) hw (c_X7_page l hl0 D a cA σ0 x1 x2) hl.1 (tt_V km_L_15 kI_X7_page ks_X7_page ki_X7 kC_X7_page) 0 (ci := 7) rfl rfl rfl (na := 2) rfl (by decide +kernel) hX ⟨rfl, rfl⟩ ⟨Nat.le_of_ble_eq_true rfl, Nat.le_of_ble_eq_true rfl⟩ ⟨by decide, by decide⟩ rfl (Nat.le_of_ble_eq_true rfl) dL_page_5 (fun E ce q9 H locs hE hw hcell hv hcl => ?_) (fun r9 H locs hc hw => ?_)
  · rcases hE with ⟨rfl, hc⟩ | ⟨rfl, hc⟩
    · refine vx_catch K.2.2.2.1 [] ⟨0, 10, 13, 13⟩ [] hT (fun z h => nomatch h) rfl (by decide) (K.2.2.1 _ kk_L_13) (va_Nw.use rfl hX.1.2.2.2.1) hcell hv hcl ?_
      refine lv_astore (lv' := [(4, .ref q9), (0, .ref (a 0)), (1, .int x1), (2, .int x2), (3, .ref o)]) K.1 K.2.1 dL_page_13 hl (by decide) rfl (fun ls hl => ?_)
      refine lv_iconst (v := 1) K.1 K.2.1 dL_page_15 (by decide) ?_
      exact ret (u := g) ⟨by rw [hc], fun h9 => by rw [hc] at h9; exact absurd h9 (by decide)⟩ hw dL_page_16
    · exfalso; revert hc; simp only [f_X7_page]; (repeat' split) <;> simp
  · refine lv_i2l K.1 K.2.1 dL_page_8 rfl ?_
    refine gJs K hw 41 15 (outAt pdW_len) rfl (vi_0 (by decide)) dL_page_9 (fun H locs hw => ?_)
    have hw := (outSet (x := outC o cO g) (pdW_len (a := a) (cA := cA) (σ := σ0))) ▸ hw
    refine lv_goto (tgt := 17) K.1 K.2.1 dL_page_10 (by decide) ?_
    refine lv_iconst (v := 0) K.1 K.2.1 dL_page_17 (by decide) ?_
    exact ret ⟨by rw [hc], fun _ => by rw [hc]; rfl⟩ hw dL_page_18
theorem kW_L_place : Cond.codeWith yL_place cL_place 5 (some .int) [(0, 10, 13, 13)] ∈ TT := tt_m (List.mem_of_getElem? (i := 803) (by decide +kernel)) rfl
abbrev rm_L_place : Room := { frames := 7 + 0, cells := 1, slots := 6, locals := 140 }
set_option maxHeartbeats 4000000 in
set_option maxRecDepth 100000 in
theorem c_L_place (l : Launch) (hl0 : l.stackTraces = false) (D : va_G) (a : Nat → Nat) (cA : Nat → ClassId) (o : Nat) (cO : ClassId) (g : Nat → Int64) (σ0 : PS) (x1 : Int32) (x2 : Int32) (hI : Bx σ0) : CH l yL_place cL_place 5 [(0, 10, 13, 13)] rm_L_place D (pdT cA ++ [(cO, .long)]) [.ref (a 0), .int x1, .int x2, .ref o] (pdW a cA σ0) o cO g (hP (f_X7_place σ0 x1 x2) Int32.toInt64) := by
  refine en_h (by decide +kernel) rfl (Nat.le_of_ble_eq_true rfl) ?_
  intro p e s m args below meth c A ls Q K hT hX hNc hw hl ret
  have hl : lv_has ls 5 [(0, .ref (a 0)), (1, .int x1), (2, .int x2), (3, .ref o)] := hl
  refine lv_aload_n K.1 K.2.1 dL_place_0 rfl (lv_at hl 3 rfl) ?_
  refine lv_iconst (v := 0) K.1 K.2.1 dL_place_1 (by decide) ?_
  refine lv_aload_n K.1 K.2.1 dL_place_2 rfl (lv_at hl 0 rfl) ?_
  refine lv_iload_n K.1 K.2.1 dL_place_3 rfl (lv_at hl 1 rfl) ?_
  refine lv_iload_n K.1 K.2.1 dL_place_4 rfl (lv_at hl 2 rfl) ?_
  refine fcXi K (vaK_left K.2.2.2.2.1) hw (c_X7_place l hl0 D a cA σ0 x1 x2 hI) hl.1 (tt_V km_L_28 kI_X7_place ks_X7_place ki_X7 kC_X7_place) 0 (ci := 7) rfl rfl rfl (na := 2) rfl (by decide +kernel) hX ⟨rfl, rfl⟩ ⟨Nat.le_of_ble_eq_true rfl, Nat.le_of_ble_eq_true rfl⟩ ⟨by decide, by decide⟩ rfl (Nat.le_of_ble_eq_true rfl) dL_place_5 (fun E ce q9 H locs hE hw hcell hv hcl => ?_) (fun r9 H locs hc hw => ?_)
  · rcases hE with ⟨rfl, hc⟩ | ⟨rfl, hc⟩
    · refine vx_catch K.2.2.2.1 [] ⟨0, 10, 13, 13⟩ [] hT (fun z h => nomatch h) rfl (by decide) (K.2.2.1 _ kk_L_13) (va_Nw.use rfl hX.1.2.2.2.1) hcell hv hcl ?_
      refine lv_astore (lv' := [(4, .ref q9), (0, .ref (a 0)), (1, .int x1), (2, .int x2), (3, .ref o)]) K.1 K.2.1 dL_place_13 hl (by decide) rfl (fun ls hl => ?_)
      refine lv_iconst (v := 1) K.1 K.2.1 dL_place_15 (by decide) ?_
      exact ret (u := g) ⟨by rw [hc], fun h9 => by rw [hc] at h9; exact absurd h9 (by decide)⟩ hw dL_place_16
    · exfalso; revert hc; simp only [f_X7_place]; (repeat' split) <;> simp
  · refine lv_i2l K.1 K.2.1 dL_place_8 rfl ?_
    refine gJs K hw 41 15 (outAt pdW_len) rfl (vi_0 (by decide)) dL_place_9 (fun H locs hw => ?_)
    have hw := (outSet (x := outC o cO g) (pdW_len (a := a) (cA := cA) (σ := σ0))) ▸ hw
    refine lv_goto (tgt := 17) K.1 K.2.1 dL_place_10 (by decide) ?_
    refine lv_iconst (v := 0) K.1 K.2.1 dL_place_17 (by decide) ?_
    exact ret ⟨by rw [hc], fun _ => by rw [hc]; rfl⟩ hw dL_place_18
theorem kW_L_other : Cond.codeWith yL_other cL_other 4 (some .int) [(0, 9, 12, 22), (0, 9, 15, 13)] ∈ TT := tt_m (List.mem_of_getElem? (i := 765) (by decide +kernel)) rfl
abbrev rm_L_other : Room := { frames := 7 + 0, cells := 1, slots := 6, locals := 140 }
set_option maxHeartbeats 4000000 in
set_option maxRecDepth 100000 in
theorem c_L_other (l : Launch) (hl0 : l.stackTraces = false) (D : va_G) (a : Nat → Nat) (cA : Nat → ClassId) (o : Nat) (cO : ClassId) (g : Nat → Int64) (σ0 : PS) (x1 : Int32) (hI : Bx σ0) : CH l yL_other cL_other 4 [(0, 9, 12, 22), (0, 9, 15, 13)] rm_L_other D (pdT cA ++ [(cO, .long)]) [.ref (a 0), .int x1, .ref o] (pdW a cA σ0) o cO g (hP (f_X7_other σ0 x1) Int32.toInt64) := by
  refine en_h (by decide +kernel) rfl (Nat.le_of_ble_eq_true rfl) ?_
  intro p e s m args below meth c A ls Q K hT hX hNc hw hl ret
  have hl : lv_has ls 4 [(0, .ref (a 0)), (1, .int x1), (2, .ref o)] := hl
  refine lv_aload_n K.1 K.2.1 dL_other_0 rfl (lv_at hl 2 rfl) ?_
  refine lv_iconst (v := 0) K.1 K.2.1 dL_other_1 (by decide) ?_
  refine lv_aload_n K.1 K.2.1 dL_other_2 rfl (lv_at hl 0 rfl) ?_
  refine lv_iload_n K.1 K.2.1 dL_other_3 rfl (lv_at hl 1 rfl) ?_
  refine fcXi K (vaK_left K.2.2.2.2.1) hw (c_X7_other l hl0 D a cA σ0 x1 hI) hl.1 (tt_V km_L_18 kI_X7_other ks_X7_other ki_X7 kC_X7_other) 0 (ci := 7) rfl rfl rfl (na := 1) rfl (by decide +kernel) hX ⟨rfl, rfl⟩ ⟨Nat.le_of_ble_eq_true rfl, Nat.le_of_ble_eq_true rfl⟩ ⟨by decide, by decide⟩ rfl (Nat.le_of_ble_eq_true rfl) dL_other_4 (fun E ce q9 H locs hE hw hcell hv hcl => ?_) (fun r9 H locs hc hw => ?_)
  · rcases hE with ⟨rfl, hc⟩ | ⟨rfl, hc⟩
    · refine vx_catch K.2.2.2.1 [⟨0, 9, 12, 22⟩] ⟨0, 9, 15, 13⟩ [] hT (fun z h => by rcases List.mem_singleton.mp h with rfl; exact Or.inr ⟨by decide, nIS, K.2.2.1 _ kk_L_22, hNc⟩) rfl (by decide) (K.2.2.1 _ kk_L_13) (va_Nw.use rfl hX.1.2.2.2.1) hcell hv hcl ?_
      refine lv_astore_n (lv' := [(3, .ref q9), (0, .ref (a 0)), (1, .int x1), (2, .ref o)]) K.1 K.2.1 dL_other_15 rfl hl (by decide) rfl (fun ls hl => ?_)
      refine lv_iconst (v := 2) K.1 K.2.1 dL_other_16 (by decide) ?_
      exact ret (u := g) ⟨by rw [hc], fun h9 => by rw [hc] at h9; exact absurd h9 (by decide)⟩ hw dL_other_17
    · refine vx_catch K.2.2.2.1 [] ⟨0, 9, 12, 22⟩ [⟨0, 9, 15, 13⟩] hT (fun z h => nomatch h) rfl (by decide) (K.2.2.1 _ kk_L_22) (va_Nw.use rfl hX.1.2.2.2.2) hcell hv hcl ?_
      refine lv_astore_n (lv' := [(3, .ref q9), (0, .ref (a 0)), (1, .int x1), (2, .ref o)]) K.1 K.2.1 dL_other_12 rfl hl (by decide) rfl (fun ls hl => ?_)
      refine lv_iconst (v := 1) K.1 K.2.1 dL_other_13 (by decide) ?_
      exact ret (u := g) ⟨by rw [hc], fun h9 => by rw [hc] at h9; exact absurd h9 (by decide)⟩ hw dL_other_14
  · refine lv_i2l K.1 K.2.1 dL_other_7 rfl ?_
    refine gJs K hw 41 15 (outAt pdW_len) rfl (vi_0 (by decide)) dL_other_8 (fun H locs hw => ?_)
    have hw := (outSet (x := outC o cO g) (pdW_len (a := a) (cA := cA) (σ := σ0))) ▸ hw
    refine lv_goto (tgt := 18) K.1 K.2.1 dL_other_9 (by decide) ?_
    refine lv_iconst (v := 0) K.1 K.2.1 dL_other_18 (by decide) ?_
    exact ret ⟨by rw [hc], fun _ => by rw [hc]; rfl⟩ hw dL_other_19
theorem kW_L_data : Cond.codeWith yL_data cL_data 4 (some .int) [(0, 8, 11, 22)] ∈ TT := tt_m (List.mem_of_getElem? (i := 792) (by decide +kernel)) rfl
abbrev rm_L_data : Room := { frames := 7 + 0, cells := 1, slots := 6, locals := 140 }
set_option maxHeartbeats 4000000 in
set_option maxRecDepth 100000 in
theorem c_L_data (l : Launch) (hl0 : l.stackTraces = false) (D : va_G) (a : Nat → Nat) (cA : Nat → ClassId) (o : Nat) (cO : ClassId) (g : Nat → Int64) (σ0 : PS) (x1 : Int32) (hI : Bx σ0) : CH l yL_data cL_data 4 [(0, 8, 11, 22)] rm_L_data D (pdT cA ++ [(cO, .long)]) [.ref (a 0), .int x1, .ref o] (pdW a cA σ0) o cO g (hP (f_X7_data σ0 x1) id) := by
  refine en_h (by decide +kernel) rfl (Nat.le_of_ble_eq_true rfl) ?_
  intro p e s m args below meth c A ls Q K hT hX hNc hw hl ret
  have hl : lv_has ls 4 [(0, .ref (a 0)), (1, .int x1), (2, .ref o)] := hl
  refine lv_aload_n K.1 K.2.1 dL_data_0 rfl (lv_at hl 2 rfl) ?_
  refine lv_iconst (v := 0) K.1 K.2.1 dL_data_1 (by decide) ?_
  refine lv_aload_n K.1 K.2.1 dL_data_2 rfl (lv_at hl 0 rfl) ?_
  refine lv_iload_n K.1 K.2.1 dL_data_3 rfl (lv_at hl 1 rfl) ?_
  refine fcXl K (vaK_left K.2.2.2.2.1) hw (c_X7_data l hl0 D a cA σ0 x1 hI) hl.1 (tt_V km_L_24 kI_X7_data ks_X7_data ki_X7 kC_X7_data) 0 (ci := 7) rfl rfl rfl (na := 1) rfl (by decide +kernel) hX ⟨rfl, rfl⟩ ⟨Nat.le_of_ble_eq_true rfl, Nat.le_of_ble_eq_true rfl⟩ ⟨by decide, by decide⟩ rfl (Nat.le_of_ble_eq_true rfl) dL_data_4 (fun E ce q9 H locs hE hw hcell hv hcl => ?_) (fun r9 H locs hc hw => ?_)
  · rcases hE with ⟨rfl, hc⟩ | ⟨rfl, hc⟩
    · exfalso; revert hc; simp only [f_X7_data]; (repeat' split) <;> simp
    · refine vx_catch K.2.2.2.1 [] ⟨0, 8, 11, 22⟩ [] hT (fun z h => nomatch h) rfl (by decide) (K.2.2.1 _ kk_L_22) (va_Nw.use rfl hX.1.2.2.2.2) hcell hv hcl ?_
      refine lv_astore_n (lv' := [(3, .ref q9), (0, .ref (a 0)), (1, .int x1), (2, .ref o)]) K.1 K.2.1 dL_data_11 rfl hl (by decide) rfl (fun ls hl => ?_)
      refine lv_iconst (v := 1) K.1 K.2.1 dL_data_12 (by decide) ?_
      exact ret (u := g) ⟨by rw [hc], fun h9 => by rw [hc] at h9; exact absurd h9 (by decide)⟩ hw dL_data_13
  · refine gJs K hw 41 15 (outAt pdW_len) rfl (vi_0 (by decide)) dL_data_7 (fun H locs hw => ?_)
    have hw := (outSet (x := outC o cO g) (pdW_len (a := a) (cA := cA) (σ := σ0))) ▸ hw
    refine lv_goto (tgt := 14) K.1 K.2.1 dL_data_8 (by decide) ?_
    refine lv_iconst (v := 0) K.1 K.2.1 dL_data_14 (by decide) ?_
    exact ret ⟨by rw [hc], fun _ => by rw [hc]; rfl⟩ hw dL_data_15
