/-! THE CLAIM OUT OF ONE WALK OF THE LAW'S BODY. Your part is whole_start (and what it stands on); all else here is the same for every law, but numbers. -/
def R_law : String := "PageDeskLaw"
def lw_P (b : Addr) (xs : List Int32) (args : Array Value) (s : State) : Prop := args = #[.ref b] ∧ s.IntsAt b xs ∧ xs.length ≤ 2048 ∧ (Jvm.Cond.and given_1 narrow_1).before args s = true
def lw_Q (_ : Array Value) (s : State) (o : Outcome) (t : State) : Prop := o = .returned (some (.int 1)) ∧ Framed s o t [] 601024 7293034
def lw_Z (below : List Frame) (a : Array Value) (s : State) : State → Prop := fun t => ∃ o, t.status = .running ∧ Ended t below o ∧ lw_Q a s o t
/-- the law's own end, with 1 on the stack, nothing written that was there before, its room as the claim has it -/
theorem lw_ret {p : Program} {l : Launch} {e : Env} {s : State} {m : MethodId} {below : List Frame} {meth : Method} {c : Code} {b : Nat} (hx : p.tables.exec = Jvm.exec) (hb : c.code = code) (hr : meth.sig.returnType = ret) (hlocks : meth.locks = false) {pc : Nat} {H : Heap} {ls : Array Slot} (hdg : decode code pc = .ok (.ireturn, 1)) : W p l e room_1 s m #[Value.ref b] below meth c H [] 601024 7293034 (lw_Z below #[Value.ref b] s) (F0 m pc ls [.int 1]) := by
  intro T hT X
  obtain ⟨fs, hret, hrun, hended, hW, hframe⟩ := X.leave (v := some (.int 1)) (hlocks := hlocks) (fun h => by rw [hr] at h; cases h)
  have hmeth' : T.vm.method? m = some meth := X.method'
  refine ⟨T.setFrames fs, ?_, .returned (some (.int 1)), hrun, hended, rfl, ⟨_, rfl⟩, hW, hframe⟩
  jvm_step X.here [X.here.top, hx, hb, hdg, hmeth', hr, ret, narrow_b1]
  (try refine ⟨rfl, ?_⟩); (try refine ⟨rfl, ?_⟩)
  first | (intro acts; rw [hret _ acts rfl rfl rfl]) | rw [hret _ _ rfl rfl rfl]
  exact Steps.refl _
/-- what holds at the law's entry: the machine, the code, the tables' words (any of lw_tbl by 'hts w (by decide +kernel)'), the script of L ints xs at the cell b, what the Statement gives of the start (any of its parts by flat_of_before) -/
def lw_At (p : Program) (s : State) (m : MethodId) (meth : Method) (c : Code) (b L : Nat) (xs : Nat → Int32) : Prop :=
  p.tables.exec = Jvm.exec ∧ c.code = code ∧ meth.sig.returnType = ret ∧ c.maxLocals = 8 ∧ s.vm.findClass R_law = some m.cls ∧ (∀ w ∈ lw_tbl, w.before #[Value.ref b] s = true) ∧ va_X b L xs s s.heap ∧ b < s.heap.size ∧ meth.locks = false ∧ (Jvm.Cond.and given_1 narrow_1).before #[Value.ref b] s = true
/-! the law's loop, over a relation that the calls keep -/
theorem tt_SW {own : String} {idx n : Nat} {y : MethodName} {b : ByteArray} {r : Option FieldType} {hh : List (Nat × Nat × Nat × Nat)} (h1 : Cond.methodLink own idx y ∈ TT) (h2 : Cond.static y ∈ TT) (h4 : Cond.initialized y.cls ∈ TT) (h5 : Cond.codeWith y b n r hh ∈ TT) : GoodIn TT (va_wsS own idx y (Cond.codeWith y b n r hh :: TT)) := fun w hw => by
  simp only [va_wsS, List.cons_append, List.nil_append, List.mem_cons] at hw
  rcases hw with rfl | rfl | rfl | rfl | hw
  · exact ⟨h1, tt_g h1⟩
  · exact ⟨h2, tt_g h2⟩
  · exact ⟨h4, tt_g h4⟩
  · exact ⟨h5, tt_g h5⟩
  · exact ⟨hw, tt_g hw⟩
theorem fcH {p : Program} {l : Launch} {e : Env} {R : Room} {s : State} {m : MethodId} {args : Array Value} {below : List Frame} {meth : Method} {c : Code} {H : Heap} {locs : List Loc} {cells slots : Nat} {Q : State → Prop} {cc : ByteArray} {pc : Nat} {ls : Array Slot} {rest : List Value} {own : String} {nL : Nat} {D : va_G} {tys tys1 : List (ClassId × FieldType)} {A : Nat → Prop} {H0 : Heap} {wp w2 : va_W} {o : Nat} {cO : ClassId} {g : Nat → Int64} {P : Int32 → (Nat → Int64) → Prop} (K : MC p s m args meth c cc own nL D tys) (hK1 : va_K D vwCl tys1 s) (hX : XF A s H0) (hNc : va_Nc nIO nIS s) (hw : WD D A H0 ((wp ++ [outC o cO g]) ++ w2) H locs) {y : MethodName} {b : ByteArray} {mL idx : Nat} {hh : List (Nat × Nat × Nat × Nat)} {rm : Room} {As : List Value} (hC : CH l y b mL hh rm D tys1 As wp o cO g P) (hl : ls.size = nL) (hG : GoodIn TT (va_wsS own idx y (Cond.codeWith y b mL (some .int) hh :: TT))) {na : Nat} (hna : As.length = na) (hd9 : y.cls ≠ "java/lang/invoke/MethodHandle" ∧ y.cls ≠ "java/lang/invoke/VarHandle" ∧ (parseMethodDescriptor y.desc).map (fun d => d.parameters.length) = some na) (hrm : rm.cells = 1 ∧ rm.slots = 6) (hcs : cells + 1 ≤ R.cells ∧ slots + 6 ≤ R.slots) (hR : rm.frames + 1 ≤ R.frames ∧ 8 + (mL + 11) + rm.locals ≤ R.locals) {st : List Value} (hst : st = As.reverse ++ rest) (hre : (rest.map fun v => v.category).sum ≤ 8) (hd : decode cc pc = .ok (.invokestatic idx, 3)) (kk : ∀ (r9 : Int32) (u : Nat → Int64) (H1 : Heap) (locs1 : List Loc), P r9 u → WD D A H0 ((wp ++ [outC o cO u]) ++ w2) H1 locs1 → W p l e R s m args below meth c H1 locs1 (cells + 1) (slots + 6) Q (F0 m (pc + 3) ls (.int r9 :: rest))) : W p l e R s m args below meth c H locs cells slots Q (F0 m pc ls st) := by
  have hF := wd_free hw.left
  refine va_calli (vx_runSW (As := As) (rest := rest) ⟨K.1, K.2.1, K.2.2.2.2.2.1, K.2.2.2.1, K.2.2.1⟩ (hC H.size) (vx_cwSW na K.2.2.1 hG rfl hrm.1 hrm.2 hd9 hR) ⟨fun a U g mk q => by obtain ⟨q0, ⟨q1, qP, qK, qD⟩, qX, qN⟩ := q; exact ⟨q0, ⟨q1, qP, va_K.moved (u := U) (U := U.calling g mk a) (Vm.Alike.refl U.vm) qK, qD⟩, XF.call qX, qN.moved (u := U) (Vm.Alike.refl U.vm)⟩, fun U hU hW => ⟨rfl, ⟨by rw [hU], by rw [hU]; exact hw.left.1, va_K.moved hW.alike hK1, hw.left.2.1.weaken (fun _ _ _ _ => trivial)⟩, by rw [hU]; exact hX.go hW hw.2.2.1 hF, hNc.moved hW.alike⟩⟩ rfl hna hl hst (lv_room hre) hd hcs) hw.2.2.1 (fun q _ h => hF q h) hF (fun r9 u t H1 locs1 ht hvm hr9 hB hz1 hk1 hS => ?_)
  obtain ⟨hP1, hK1', hD1⟩ := hB
  rw [ht] at hP1
  exact kk r9 u H1 locs1 hr9 (hw.join hk1 hP1 hD1 hS)
theorem mdW_len {a : Nat → Nat} {cA : Nat → ClassId} {σ : PS} : (mdW a cA σ).length = 9 := rfl
theorem outAt3 {a b : Nat → Nat} {cA cB : Nat → ClassId} {σ μ : PS} {x : Nat × va_E} : (pdW a cA σ ++ (mdW b cB μ ++ [x]))[50]? = some x := by
  rw [← List.append_assoc]
  exact outAt (by rw [List.length_append, pdW_len, mdW_len])
theorem prm1 {x y z : va_W} : (x ++ (y ++ z)).Perm ((x ++ z) ++ y) := by
  rw [List.append_assoc]
  exact List.Perm.append_left x List.perm_append_comm
theorem prm2 {x y z : va_W} : (x ++ (y ++ z)).Perm (y ++ (x ++ z)) := by
  rw [← List.append_assoc, ← List.append_assoc]
  exact List.Perm.append_right z List.perm_append_comm
theorem lwC {L k : Nat} (hL : L ≤ 2048) (hk : 4 * k ≤ L) (c : ¬ (Int32.ofNat L - 4 < nI (4 * k))) : 4 * k + 4 ≤ L := by
  rw [Int32.lt_iff_toInt_lt] at c
  have e4 : (4 : Int32).toInt = 4 := rfl
  have e1 : (Int32.ofNat L).toInt = (L : Int) := nI_toInt (n := L) (by omega)
  have e2 : (nI (4 * k)).toInt = ((4 * k : Nat) : Int) := nI_toInt (by omega)
  rw [i32sub (by omega) (by omega), e1, e2, e4] at c
  omega
theorem lwI {L k : Nat} (hL : L ≤ 2048) (h : 4 * k + 4 ≤ L) : vp_in (nI (4 * k)) L ∧ vp_in (nI (4 * k) + 1) L ∧ vp_in (nI (4 * k) + 2) L ∧ vp_in (nI (4 * k) + 3) L := by
  have e : ∀ (j : Nat) (v : Int32), v = nI j → nI (4 * k) + v = nI (4 * k + j) := fun j v hv => by rw [hv]; exact nI_add _ _
  refine ⟨vp_in_nI (by omega) (by omega), ?_, ?_, ?_⟩
  · rw [e 1 1 rfl]; exact vp_in_nI (by omega) (by omega)
  · rw [e 2 2 rfl]; exact vp_in_nI (by omega) (by omega)
  · rw [e 3 3 rfl]; exact vp_in_nI (by omega) (by omega)
/-- what the calls owe to the relation: R k σ μ holds behind k calls -/
def Sims (R : Nat → PS → PS → Prop) : Prop :=
  (∀ k σ μ, R k σ μ → Bx σ ∧ Bm μ ∧ 0 ≤ (μ.1 27).toInt ∧ (μ.1 27).toInt ≤ 2147483600 ∧ 0 ≤ (μ.2.1 6 5).toInt ∧ (k < 512 → ∀ (x : Int64) (n : Int32), ¬ n < 1 → n ≤ 8 → F3 9 (upS μ 0 0) x (n - 1))) ∧
  (∀ k σ μ x n, k < 512 → R k σ μ → (f_X7_feed σ x n).2 = (f_X8_feed μ x n).2 ∧ R (k + 1) (f_X7_feed σ x n).1 (f_X8_feed μ x n).1) ∧
  (∀ k σ μ x y z, k < 512 → R k σ μ → (f_X7_advance σ x y z).2 = (f_X8_advance μ x y z).2 ∧ R (k + 1) (f_X7_advance σ x y z).1 (f_X8_advance μ x y z).1) ∧
  (∀ k σ μ, k < 512 → R k σ μ → R (k + 1) (f_X7_due σ) (f_X8_due μ)) ∧
  (∀ k σ μ x y, k < 512 → R k σ μ → R (k + 1) (f_X7_move σ x y) (f_X8_move μ x y)) ∧
  (∀ k σ μ x, k < 512 → R k σ μ → (f_X7_keep σ x).2 = (f_X8_keep μ x).2 ∧ R (k + 1) (f_X7_keep σ x).1 (f_X8_keep μ x).1) ∧
  (∀ k σ μ x, k < 512 → R k σ μ → (f_X7_bring σ x).2 = (f_X8_bring μ x).2 ∧ R (k + 1) (f_X7_bring σ x).1 (f_X8_bring μ x).1) ∧
  (∀ k σ μ x y, k < 512 → R k σ μ → f_X8_thrown (f_X8_glyph μ x y).1 = (f_X7_glyph σ x y).1 ∧ ((f_X7_glyph σ x y).1 = 0 → (f_X7_glyph σ x y).2 = (f_X8_glyph μ x y).2) ∧ R (k + 1) σ (f_X8_glyph μ x y).1) ∧
  (∀ k σ μ x y, k < 512 → R k σ μ → f_X8_thrown (f_X8_page μ x y).1 = (f_X7_page σ x y).1 ∧ ((f_X7_page σ x y).1 = 0 → (f_X7_page σ x y).2 = (f_X8_page μ x y).2) ∧ R (k + 1) σ (f_X8_page μ x y).1) ∧
  (∀ k σ μ x, k < 512 → R k σ μ → f_X8_thrown (f_X8_other μ x).1 = (f_X7_other σ x).1 ∧ ((f_X7_other σ x).1 = 0 → (f_X7_other σ x).2 = (f_X8_other μ x).2) ∧ R (k + 1) σ (f_X8_other μ x).1) ∧
  (∀ k σ μ x, k < 512 → R k σ μ → f_X8_thrown (f_X8_data μ x).1 = (f_X7_data σ x).1 ∧ ((f_X7_data σ x).1 = 0 → (f_X7_data σ x).2 = (f_X8_data μ x).2) ∧ R (k + 1) σ (f_X8_data μ x).1) ∧
  (∀ k σ μ, k < 512 → R k σ μ → (f_X7_take σ).2 = (f_X8_take μ).2 ∧ R (k + 1) (f_X7_take σ).1 (f_X8_take μ).1) ∧
  (∀ k σ μ x y, k < 512 → R k σ μ → f_X8_thrown (f_X8_place μ x y).1 = (f_X7_place σ x y).1 ∧ ((f_X7_place σ x y).1 = 0 → (f_X7_place σ x y).2 = (f_X8_place μ x y).2) ∧ R (k + 1) σ (f_X8_place μ x y).1) ∧
  (∀ k σ μ x, k < 512 → R k σ μ → f_X7_look σ x = (f_X8_look μ x).2 ∧ R (k + 1) σ (f_X8_look μ x).1) ∧
  (∀ k σ μ, k < 512 → R k σ μ → R (k + 1) σ μ)
set_option maxHeartbeats 16000000 in
set_option maxRecDepth 100000 in
/-- at the loop's head, behind k calls -/
theorem law_loop {R : Nat → PS → PS → Prop} (hSim : Sims R) {p : Program} {l : Launch} {e : Env} {s : State} {m : MethodId} {below : List Frame} {meth : Method} {c : Code} {D : va_G} {b L : Nat} {xs : Nat → Int32} (hL : L ≤ 2048) (hl0 : l.stackTraces = false) (hr : meth.sig.returnType = ret) (hX : va_X b L xs s s.heap) (hbl : b < s.heap.size) {a b8 : Nat → Nat} {cA cB : Nat → ClassId} {o : Nat} {cO : ClassId} (K : MC p s m #[Value.ref b] meth c code RL 8 D (pdT cA ++ (mdT cB ++ [(cO, .long)]))) (hXF : XF (fun q : Nat => s.heap.size ≤ q) s s.heap) (hNc : va_Nc nIO nIS s) :
    ∀ (n k : Nat) (i : Int32) (σ μ : PS) (g : Nat → Int64) (H : Heap) (locs : List Loc) (ls : Array Slot), i = nI (4 * k) → 4 * k ≤ L → L < 4 * k + 4 * n → R k σ μ → WD D (fun q : Nat => s.heap.size ≤ q) s.heap (pdW a cA σ ++ (mdW b8 cB μ ++ [outC o cO g])) H locs → lv_has ls 8 [(4, .int i), (0, .ref b), (1, .ref (a 0)), (2, .ref (b8 0)), (3, .ref o)] → W p l e room_1 s m #[Value.ref b] below meth c H locs (51 + k) (40292 + 6 * k) (lw_Z below #[Value.ref b] s) (F0 m 23 ls []) := by
  obtain ⟨S0, Sfeed, Sadvance, Sdue, Smove, Skeep, Sbring, Sglyph, Spage, Sother, Sdata, Stake, Splace, Slook, Snone⟩ := hSim
  have hbA : ¬ (fun q : Nat => s.heap.size ≤ q) b := Nat.not_le.mpr hbl
  have hK7 : va_K D vwCl (pdT cA) s := vaK_left K.2.2.2.2.1
  have hK8 : va_K D vwCl (mdT cB) s := vaK_left (vaK_right K.2.2.2.2.1)
  have hKo : va_K D vwCl (pdT cA ++ [(cO, .long)]) s := hK7.app (vaK_right (vaK_right K.2.2.2.2.1))
  intro n
  induction n with
  | zero =>
    intro k i σ μ g H locs ls hi hk hn
    exact absurd hn (by omega)
  | succ n ih =>
    intro k i σ μ g H locs ls hi hk hn hR hw hl
    obtain ⟨hB, hM, hp, hq, h5, hF⟩ := S0 k σ μ hR
    refine lv_iload K.1 K.2.1 dL_law_23 (lv_at hl 0 rfl) ?_
    refine lv_aload_n K.1 K.2.1 dL_law_25 rfl (lv_at hl 1 rfl) ?_
    refine va_slen K.1 K.2.1 hX hbl hbA hw.2.2.1 dL_law_26 ?_
    refine lv_iconst (v := 4) K.1 K.2.1 dL_law_27 (by decide) ?_
    refine lv_isub K.1 K.2.1 dL_law_28 ?_
    refine lv_icmp_gt (tgt := 693) K.1 K.2.1 dL_law_29 (by decide) (fun c29 => ?_) (fun c29 => ?_)
    · refine lv_iconst (v := 1) K.1 K.2.1 dL_law_693 (by decide) ?_
      refine va_forget (fun q hq => hw.2.2.1.2.2 q hq) ?_
      refine W.widen (k := 601024) (n := 7293034) (by omega) (by omega) ?_
      exact lw_ret K.1 K.2.1 hr K.2.2.2.2.2.2 dL_law_694
    · have hk4 := lwC hL hk (by rw [← hi]; exact c29)
      have hix := lwI hL hk4
      rw [← hi] at hix
      have hk5 : k < 512 := by omega
      have J687 : ∀ (σ μ : PS) (g : Nat → Int64) (H : Heap) (locs : List Loc) (ls : Array Slot), WD D (fun q : Nat => s.heap.size ≤ q) s.heap (pdW a cA σ ++ (mdW b8 cB μ ++ [outC o cO g])) H locs → lv_has ls 8 [(0, .ref b), (1, .ref (a 0)), (2, .ref (b8 0)), (3, .ref o), (4, .int i)] → R (k + 1) σ μ → W p l e room_1 s m #[Value.ref b] below meth c H locs (51 + (k + 1)) (40292 + 6 * (k + 1)) (lw_Z below #[Value.ref b] s) (F0 m 687 ls []) := by
        intro σ μ g H locs ls hw hl hR
        obtain ⟨z, ez⟩ : ∃ z9 : Int32, z9 = i + 4 := ⟨_, rfl⟩
        refine lv_iinc (v := z) (lv' := [(4, .int z), (0, .ref b), (1, .ref (a 0)), (2, .ref (b8 0)), (3, .ref o)]) K.1 K.2.1 dL_law_687 hl (k := 4) rfl (by rw [ez]; rfl) (by decide) rfl (fun ls hl => ?_)
        refine lv_goto (tgt := 23) K.1 K.2.1 dL_law_690 (by decide) ?_
        exact ih (k + 1) z σ μ g H locs ls (by rw [ez, hi]; exact nI_add (4 * k) 4) (by omega) (by omega) hR hw hl
      refine lv_aload_n K.1 K.2.1 dL_law_32 rfl (lv_at hl 1 rfl) ?_
      refine lv_iload K.1 K.2.1 dL_law_33 (lv_at hl 0 rfl) ?_
      refine va_sld K.1 K.2.1 hX hbl hbA hw.2.2.1 hix.1 dL_law_35 ?_
      refine lv_bipush (v := 15) K.1 K.2.1 dL_law_36 (by decide) ?_
      refine lv_iand K.1 K.2.1 dL_law_38 ?_
      refine sw_t K dL_law_39 (k := 0) (tgt := 104) (by decide) (by decide) (fun c39_0 => ?_) (fun c39_0 => ?_)
      · refine lv_aload_n K.1 K.2.1 dL_law_104 rfl (lv_at hl 2 rfl) ?_
        refine lv_aload_n K.1 K.2.1 dL_law_105 rfl (lv_at hl 1 rfl) ?_
        refine lv_iload K.1 K.2.1 dL_law_106 (lv_at hl 0 rfl) ?_
        refine lv_iconst (v := 1) K.1 K.2.1 dL_law_108 (by decide) ?_
        refine lv_iadd K.1 K.2.1 dL_law_109 ?_
        refine va_sld K.1 K.2.1 hX hbl hbA hw.2.2.1 hix.2.1 dL_law_110 ?_
        refine lv_i2l K.1 K.2.1 dL_law_111 rfl ?_
        refine lv_bipush (v := 32) K.1 K.2.1 dL_law_112 (by decide) ?_
        refine lv_lshl K.1 K.2.1 dL_law_114 rfl ?_
        refine lv_aload_n K.1 K.2.1 dL_law_115 rfl (lv_at hl 1 rfl) ?_
        refine lv_iload K.1 K.2.1 dL_law_116 (lv_at hl 0 rfl) ?_
        refine lv_iconst (v := 2) K.1 K.2.1 dL_law_118 (by decide) ?_
        refine lv_iadd K.1 K.2.1 dL_law_119 ?_
        refine va_sld K.1 K.2.1 hX hbl hbA hw.2.2.1 hix.2.2.1 dL_law_120 ?_
        refine lv_i2l K.1 K.2.1 dL_law_121 rfl ?_
        refine lv_ldc2 K.1 K.2.1 K.2.2.2.1 (K.2.2.1 _ kc_L_36) dL_law_122 ?_
        refine lv_land K.1 K.2.1 dL_law_125 ?_
        refine lv_lor K.1 K.2.1 dL_law_126 ?_
        refine lv_aload_n K.1 K.2.1 dL_law_127 rfl (lv_at hl 1 rfl) ?_
        refine lv_iload K.1 K.2.1 dL_law_128 (lv_at hl 0 rfl) ?_
        refine lv_iconst (v := 3) K.1 K.2.1 dL_law_130 (by decide) ?_
        refine lv_iadd K.1 K.2.1 dL_law_131 ?_
        refine va_sld K.1 K.2.1 hX hbl hbA hw.2.2.1 hix.2.2.2 dL_law_132 ?_
        refine fcI K hK7 hw (c_X7_feed l D a cA σ _ _ hB) hl.1 (tt_V km_L_38 kI_X7_feed ks_X7_feed ki_X7 kC_X7_feed) 0 (ci := 7) rfl rfl rfl (na := 2) rfl (by decide +kernel) ⟨rfl, rfl⟩ ⟨by show 51 + k ≤ 601024; omega, by show 40292 + 6 * k ≤ 7293034; omega⟩ (by decide) rfl (Nat.le_of_ble_eq_true rfl) dL_law_133 (fun H locs hw => ?_)
        refine lv_aload_n K.1 K.2.1 dL_law_136 rfl (lv_at hl 3 rfl) ?_
        refine lv_aload_n K.1 K.2.1 dL_law_137 rfl (lv_at hl 1 rfl) ?_
        refine lv_iload K.1 K.2.1 dL_law_138 (lv_at hl 0 rfl) ?_
        refine lv_iconst (v := 1) K.1 K.2.1 dL_law_140 (by decide) ?_
        refine lv_iadd K.1 K.2.1 dL_law_141 ?_
        refine va_sld K.1 K.2.1 hX hbl hbA hw.2.2.1 hix.2.1 dL_law_142 ?_
        refine lv_i2l K.1 K.2.1 dL_law_143 rfl ?_
        refine lv_bipush (v := 32) K.1 K.2.1 dL_law_144 (by decide) ?_
        refine lv_lshl K.1 K.2.1 dL_law_146 rfl ?_
        refine lv_aload_n K.1 K.2.1 dL_law_147 rfl (lv_at hl 1 rfl) ?_
        refine lv_iload K.1 K.2.1 dL_law_148 (lv_at hl 0 rfl) ?_
        refine lv_iconst (v := 2) K.1 K.2.1 dL_law_150 (by decide) ?_
        refine lv_iadd K.1 K.2.1 dL_law_151 ?_
        refine va_sld K.1 K.2.1 hX hbl hbA hw.2.2.1 hix.2.2.1 dL_law_152 ?_
        refine lv_i2l K.1 K.2.1 dL_law_153 rfl ?_
        refine lv_ldc2 K.1 K.2.1 K.2.2.2.1 (K.2.2.1 _ kc_L_36) dL_law_154 ?_
        refine lv_land K.1 K.2.1 dL_law_157 ?_
        refine lv_lor K.1 K.2.1 dL_law_158 ?_
        refine lv_aload_n K.1 K.2.1 dL_law_159 rfl (lv_at hl 1 rfl) ?_
        refine lv_iload K.1 K.2.1 dL_law_160 (lv_at hl 0 rfl) ?_
        refine lv_iconst (v := 3) K.1 K.2.1 dL_law_162 (by decide) ?_
        refine lv_iadd K.1 K.2.1 dL_law_163 ?_
        refine va_sld K.1 K.2.1 hX hbl hbA hw.2.2.1 hix.2.2.2 dL_law_164 ?_
        refine fcI K hK8 (hw.perm prm2) (c_X8_feed l D b8 cB _ _ _ hM hp hq (hF hk5 _ _)) hl.1 (tt_V km_L_42 kI_X8_feed ks_X8_feed ki_X8 kC_X8_feed) 0 (ci := 8) rfl rfl rfl (na := 2) rfl (by decide +kernel) ⟨rfl, rfl⟩ ⟨by show 51 + k ≤ 601024; omega, by show 40292 + 6 * k ≤ 7293034; omega⟩ (by decide) rfl (Nat.le_of_ble_eq_true rfl) dL_law_165 (fun H locs hw => ?_)
        have hw := hw.perm prm2
        have hs := Sfeed k σ μ (((Int32.toInt64 (xs (Int32.toNatClampNeg (i + 1)))) <<< (Int32.toInt64 32 &&& 63)) ||| ((Int32.toInt64 (xs (Int32.toNatClampNeg (i + 2)))) &&& 4294967295)) (xs (Int32.toNatClampNeg (i + 3))) hk5 hR
        refine lv_icmp_eq (tgt := 687) K.1 K.2.1 dL_law_168 (by decide) (fun _ => ?_) (fun c168 => absurd hs.1 c168)
        refine W.widen (k := 51 + (k + 1)) (n := 40292 + 6 * (k + 1)) (by omega) (by omega) ?_
        exact J687 _ _ _ _ _ _ hw (lv_sub hl [1, 2, 3, 4, 0] rfl) (hs.2)
      · refine sw_t K dL_law_39 (k := 1) (tgt := 173) (by decide) (by decide) (fun c39_1 => ?_) (fun c39_1 => ?_)
        · refine lv_aload_n K.1 K.2.1 dL_law_173 rfl (lv_at hl 2 rfl) ?_
          refine lv_aload_n K.1 K.2.1 dL_law_174 rfl (lv_at hl 1 rfl) ?_
          refine lv_iload K.1 K.2.1 dL_law_175 (lv_at hl 0 rfl) ?_
          refine lv_iconst (v := 1) K.1 K.2.1 dL_law_177 (by decide) ?_
          refine lv_iadd K.1 K.2.1 dL_law_178 ?_
          refine va_sld K.1 K.2.1 hX hbl hbA hw.2.2.1 hix.2.1 dL_law_179 ?_
          refine lv_aload_n K.1 K.2.1 dL_law_180 rfl (lv_at hl 1 rfl) ?_
          refine lv_iload K.1 K.2.1 dL_law_181 (lv_at hl 0 rfl) ?_
          refine lv_iconst (v := 2) K.1 K.2.1 dL_law_183 (by decide) ?_
          refine lv_iadd K.1 K.2.1 dL_law_184 ?_
          refine va_sld K.1 K.2.1 hX hbl hbA hw.2.2.1 hix.2.2.1 dL_law_185 ?_
          refine lv_aload_n K.1 K.2.1 dL_law_186 rfl (lv_at hl 1 rfl) ?_
          refine lv_iload K.1 K.2.1 dL_law_187 (lv_at hl 0 rfl) ?_
          refine lv_iconst (v := 3) K.1 K.2.1 dL_law_189 (by decide) ?_
          refine lv_iadd K.1 K.2.1 dL_law_190 ?_
          refine va_sld K.1 K.2.1 hX hbl hbA hw.2.2.1 hix.2.2.2 dL_law_191 ?_
          refine fcI K hK7 hw (c_X7_advance l D a cA σ _ _ _) hl.1 (tt_V km_L_43 kI_X7_advance ks_X7_advance ki_X7 kC_X7_advance) 0 (ci := 7) rfl rfl rfl (na := 3) rfl (by decide +kernel) ⟨rfl, rfl⟩ ⟨by show 51 + k ≤ 601024; omega, by show 40292 + 6 * k ≤ 7293034; omega⟩ (by decide) rfl (Nat.le_of_ble_eq_true rfl) dL_law_192 (fun H locs hw => ?_)
          refine lv_aload_n K.1 K.2.1 dL_law_195 rfl (lv_at hl 3 rfl) ?_
          refine lv_aload_n K.1 K.2.1 dL_law_196 rfl (lv_at hl 1 rfl) ?_
          refine lv_iload K.1 K.2.1 dL_law_197 (lv_at hl 0 rfl) ?_
          refine lv_iconst (v := 1) K.1 K.2.1 dL_law_199 (by decide) ?_
          refine lv_iadd K.1 K.2.1 dL_law_200 ?_
          refine va_sld K.1 K.2.1 hX hbl hbA hw.2.2.1 hix.2.1 dL_law_201 ?_
          refine lv_aload_n K.1 K.2.1 dL_law_202 rfl (lv_at hl 1 rfl) ?_
          refine lv_iload K.1 K.2.1 dL_law_203 (lv_at hl 0 rfl) ?_
          refine lv_iconst (v := 2) K.1 K.2.1 dL_law_205 (by decide) ?_
          refine lv_iadd K.1 K.2.1 dL_law_206 ?_
          refine va_sld K.1 K.2.1 hX hbl hbA hw.2.2.1 hix.2.2.1 dL_law_207 ?_
          refine lv_aload_n K.1 K.2.1 dL_law_208 rfl (lv_at hl 1 rfl) ?_
          refine lv_iload K.1 K.2.1 dL_law_209 (lv_at hl 0 rfl) ?_
          refine lv_iconst (v := 3) K.1 K.2.1 dL_law_211 (by decide) ?_
          refine lv_iadd K.1 K.2.1 dL_law_212 ?_
          refine va_sld K.1 K.2.1 hX hbl hbA hw.2.2.1 hix.2.2.2 dL_law_213 ?_
          refine fcI K hK8 (hw.perm prm2) (c_X8_advance l D b8 cB _ _ _ _) hl.1 (tt_V km_L_47 kI_X8_advance ks_X8_advance ki_X8 kC_X8_advance) 0 (ci := 8) rfl rfl rfl (na := 3) rfl (by decide +kernel) ⟨rfl, rfl⟩ ⟨by show 51 + k ≤ 601024; omega, by show 40292 + 6 * k ≤ 7293034; omega⟩ (by decide) rfl (Nat.le_of_ble_eq_true rfl) dL_law_214 (fun H locs hw => ?_)
          have hw := hw.perm prm2
          have hs := Sadvance k σ μ (xs (Int32.toNatClampNeg (i + 1))) (xs (Int32.toNatClampNeg (i + 2))) (xs (Int32.toNatClampNeg (i + 3))) hk5 hR
          refine lv_icmp_eq (tgt := 687) K.1 K.2.1 dL_law_217 (by decide) (fun _ => ?_) (fun c217 => absurd hs.1 c217)
          refine W.widen (k := 51 + (k + 1)) (n := 40292 + 6 * (k + 1)) (by omega) (by omega) ?_
          exact J687 _ _ _ _ _ _ hw (lv_sub hl [1, 2, 3, 4, 0] rfl) (hs.2)
        · refine sw_t K dL_law_39 (k := 2) (tgt := 222) (by decide) (by decide) (fun c39_2 => ?_) (fun c39_2 => ?_)
          · refine lv_aload_n K.1 K.2.1 dL_law_222 rfl (lv_at hl 2 rfl) ?_
            refine fcV K hK7 hw (c_X7_due l D a cA σ) hl.1 (tt_V km_L_48 kI_X7_due ks_X7_due ki_X7 kC_X7_due) 0 (ci := 7) rfl rfl rfl (na := 0) rfl (by decide +kernel) ⟨rfl, rfl⟩ ⟨by show 51 + k ≤ 601024; omega, by show 40292 + 6 * k ≤ 7293034; omega⟩ (by decide) rfl (Nat.le_of_ble_eq_true rfl) dL_law_223 (fun H locs hw => ?_)
            refine lv_aload_n K.1 K.2.1 dL_law_226 rfl (lv_at hl 3 rfl) ?_
            refine fcV K hK8 (hw.perm prm2) (c_X8_due l D b8 cB _) hl.1 (tt_V km_L_51 kI_X8_due ks_X8_due ki_X8 kC_X8_due) 0 (ci := 8) rfl rfl rfl (na := 0) rfl (by decide +kernel) ⟨rfl, rfl⟩ ⟨by show 51 + k ≤ 601024; omega, by show 40292 + 6 * k ≤ 7293034; omega⟩ (by decide) rfl (Nat.le_of_ble_eq_true rfl) dL_law_227 (fun H locs hw => ?_)
            have hw := hw.perm prm2
            have hs := Sdue k σ μ hk5 hR
            refine lv_goto (tgt := 687) K.1 K.2.1 dL_law_230 (by decide) ?_
            refine W.widen (k := 51 + (k + 1)) (n := 40292 + 6 * (k + 1)) (by omega) (by omega) ?_
            exact J687 _ _ _ _ _ _ hw (lv_sub hl [1, 2, 3, 4, 0] rfl) (hs)
          · refine sw_t K dL_law_39 (k := 3) (tgt := 233) (by decide) (by decide) (fun c39_3 => ?_) (fun c39_3 => ?_)
            · refine lv_aload_n K.1 K.2.1 dL_law_233 rfl (lv_at hl 2 rfl) ?_
              refine lv_aload_n K.1 K.2.1 dL_law_234 rfl (lv_at hl 1 rfl) ?_
              refine lv_iload K.1 K.2.1 dL_law_235 (lv_at hl 0 rfl) ?_
              refine lv_iconst (v := 1) K.1 K.2.1 dL_law_237 (by decide) ?_
              refine lv_iadd K.1 K.2.1 dL_law_238 ?_
              refine va_sld K.1 K.2.1 hX hbl hbA hw.2.2.1 hix.2.1 dL_law_239 ?_
              refine lv_aload_n K.1 K.2.1 dL_law_240 rfl (lv_at hl 1 rfl) ?_
              refine lv_iload K.1 K.2.1 dL_law_241 (lv_at hl 0 rfl) ?_
              refine lv_iconst (v := 2) K.1 K.2.1 dL_law_243 (by decide) ?_
              refine lv_iadd K.1 K.2.1 dL_law_244 ?_
              refine va_sld K.1 K.2.1 hX hbl hbA hw.2.2.1 hix.2.2.1 dL_law_245 ?_
              refine fcV K hK7 hw (c_X7_move l D a cA σ _ _) hl.1 (tt_V km_L_52 kI_X7_move ks_X7_move ki_X7 kC_X7_move) 0 (ci := 7) rfl rfl rfl (na := 2) rfl (by decide +kernel) ⟨rfl, rfl⟩ ⟨by show 51 + k ≤ 601024; omega, by show 40292 + 6 * k ≤ 7293034; omega⟩ (by decide) rfl (Nat.le_of_ble_eq_true rfl) dL_law_246 (fun H locs hw => ?_)
              refine lv_aload_n K.1 K.2.1 dL_law_249 rfl (lv_at hl 3 rfl) ?_
              refine lv_aload_n K.1 K.2.1 dL_law_250 rfl (lv_at hl 1 rfl) ?_
              refine lv_iload K.1 K.2.1 dL_law_251 (lv_at hl 0 rfl) ?_
              refine lv_iconst (v := 1) K.1 K.2.1 dL_law_253 (by decide) ?_
              refine lv_iadd K.1 K.2.1 dL_law_254 ?_
              refine va_sld K.1 K.2.1 hX hbl hbA hw.2.2.1 hix.2.1 dL_law_255 ?_
              refine lv_aload_n K.1 K.2.1 dL_law_256 rfl (lv_at hl 1 rfl) ?_
              refine lv_iload K.1 K.2.1 dL_law_257 (lv_at hl 0 rfl) ?_
              refine lv_iconst (v := 2) K.1 K.2.1 dL_law_259 (by decide) ?_
              refine lv_iadd K.1 K.2.1 dL_law_260 ?_
              refine va_sld K.1 K.2.1 hX hbl hbA hw.2.2.1 hix.2.2.1 dL_law_261 ?_
              refine fcV K hK8 (hw.perm prm2) (c_X8_move l D b8 cB _ _ _) hl.1 (tt_V km_L_56 kI_X8_move ks_X8_move ki_X8 kC_X8_move) 0 (ci := 8) rfl rfl rfl (na := 2) rfl (by decide +kernel) ⟨rfl, rfl⟩ ⟨by show 51 + k ≤ 601024; omega, by show 40292 + 6 * k ≤ 7293034; omega⟩ (by decide) rfl (Nat.le_of_ble_eq_true rfl) dL_law_262 (fun H locs hw => ?_)
              have hw := hw.perm prm2
              have hs := Smove k σ μ (xs (Int32.toNatClampNeg (i + 1))) (xs (Int32.toNatClampNeg (i + 2))) hk5 hR
              refine lv_goto (tgt := 687) K.1 K.2.1 dL_law_265 (by decide) ?_
              refine W.widen (k := 51 + (k + 1)) (n := 40292 + 6 * (k + 1)) (by omega) (by omega) ?_
              exact J687 _ _ _ _ _ _ hw (lv_sub hl [1, 2, 3, 4, 0] rfl) (hs)
            · refine sw_t K dL_law_39 (k := 4) (tgt := 268) (by decide) (by decide) (fun c39_4 => ?_) (fun c39_4 => ?_)
              · refine lv_aload_n K.1 K.2.1 dL_law_268 rfl (lv_at hl 2 rfl) ?_
                refine lv_aload_n K.1 K.2.1 dL_law_269 rfl (lv_at hl 1 rfl) ?_
                refine lv_iload K.1 K.2.1 dL_law_270 (lv_at hl 0 rfl) ?_
                refine lv_iconst (v := 1) K.1 K.2.1 dL_law_272 (by decide) ?_
                refine lv_iadd K.1 K.2.1 dL_law_273 ?_
                refine va_sld K.1 K.2.1 hX hbl hbA hw.2.2.1 hix.2.1 dL_law_274 ?_
                refine fcI K hK7 hw (c_X7_keep l D a cA σ _ hB) hl.1 (tt_V km_L_57 kI_X7_keep ks_X7_keep ki_X7 kC_X7_keep) 0 (ci := 7) rfl rfl rfl (na := 1) rfl (by decide +kernel) ⟨rfl, rfl⟩ ⟨by show 51 + k ≤ 601024; omega, by show 40292 + 6 * k ≤ 7293034; omega⟩ (by decide) rfl (Nat.le_of_ble_eq_true rfl) dL_law_275 (fun H locs hw => ?_)
                refine lv_aload_n K.1 K.2.1 dL_law_278 rfl (lv_at hl 3 rfl) ?_
                refine lv_aload_n K.1 K.2.1 dL_law_279 rfl (lv_at hl 1 rfl) ?_
                refine lv_iload K.1 K.2.1 dL_law_280 (lv_at hl 0 rfl) ?_
                refine lv_iconst (v := 1) K.1 K.2.1 dL_law_282 (by decide) ?_
                refine lv_iadd K.1 K.2.1 dL_law_283 ?_
                refine va_sld K.1 K.2.1 hX hbl hbA hw.2.2.1 hix.2.1 dL_law_284 ?_
                refine fcI K hK8 (hw.perm prm2) (c_X8_keep l D b8 cB _ _) hl.1 (tt_V km_L_61 kI_X8_keep ks_X8_keep ki_X8 kC_X8_keep) 0 (ci := 8) rfl rfl rfl (na := 1) rfl (by decide +kernel) ⟨rfl, rfl⟩ ⟨by show 51 + k ≤ 601024; omega, by show 40292 + 6 * k ≤ 7293034; omega⟩ (by decide) rfl (Nat.le_of_ble_eq_true rfl) dL_law_285 (fun H locs hw => ?_)
                have hw := hw.perm prm2
                have hs := Skeep k σ μ (xs (Int32.toNatClampNeg (i + 1))) hk5 hR
                refine lv_icmp_eq (tgt := 687) K.1 K.2.1 dL_law_288 (by decide) (fun _ => ?_) (fun c288 => absurd hs.1 c288)
                refine W.widen (k := 51 + (k + 1)) (n := 40292 + 6 * (k + 1)) (by omega) (by omega) ?_
                exact J687 _ _ _ _ _ _ hw (lv_sub hl [1, 2, 3, 4, 0] rfl) (hs.2)
              · refine sw_t K dL_law_39 (k := 5) (tgt := 293) (by decide) (by decide) (fun c39_5 => ?_) (fun c39_5 => ?_)
                · refine lv_aload_n K.1 K.2.1 dL_law_293 rfl (lv_at hl 2 rfl) ?_
                  refine lv_aload_n K.1 K.2.1 dL_law_294 rfl (lv_at hl 1 rfl) ?_
                  refine lv_iload K.1 K.2.1 dL_law_295 (lv_at hl 0 rfl) ?_
                  refine lv_iconst (v := 1) K.1 K.2.1 dL_law_297 (by decide) ?_
                  refine lv_iadd K.1 K.2.1 dL_law_298 ?_
                  refine va_sld K.1 K.2.1 hX hbl hbA hw.2.2.1 hix.2.1 dL_law_299 ?_
                  refine fcI K hK7 hw (c_X7_bring l D a cA σ _ hB) hl.1 (tt_V km_L_62 kI_X7_bring ks_X7_bring ki_X7 kC_X7_bring) 0 (ci := 7) rfl rfl rfl (na := 1) rfl (by decide +kernel) ⟨rfl, rfl⟩ ⟨by show 51 + k ≤ 601024; omega, by show 40292 + 6 * k ≤ 7293034; omega⟩ (by decide) rfl (Nat.le_of_ble_eq_true rfl) dL_law_300 (fun H locs hw => ?_)
                  refine lv_aload_n K.1 K.2.1 dL_law_303 rfl (lv_at hl 3 rfl) ?_
                  refine lv_aload_n K.1 K.2.1 dL_law_304 rfl (lv_at hl 1 rfl) ?_
                  refine lv_iload K.1 K.2.1 dL_law_305 (lv_at hl 0 rfl) ?_
                  refine lv_iconst (v := 1) K.1 K.2.1 dL_law_307 (by decide) ?_
                  refine lv_iadd K.1 K.2.1 dL_law_308 ?_
                  refine va_sld K.1 K.2.1 hX hbl hbA hw.2.2.1 hix.2.1 dL_law_309 ?_
                  refine fcI K hK8 (hw.perm prm2) (c_X8_bring l D b8 cB _ _) hl.1 (tt_V km_L_65 kI_X8_bring ks_X8_bring ki_X8 kC_X8_bring) 0 (ci := 8) rfl rfl rfl (na := 1) rfl (by decide +kernel) ⟨rfl, rfl⟩ ⟨by show 51 + k ≤ 601024; omega, by show 40292 + 6 * k ≤ 7293034; omega⟩ (by decide) rfl (Nat.le_of_ble_eq_true rfl) dL_law_310 (fun H locs hw => ?_)
                  have hw := hw.perm prm2
                  have hs := Sbring k σ μ (xs (Int32.toNatClampNeg (i + 1))) hk5 hR
                  refine lv_icmp_eq (tgt := 687) K.1 K.2.1 dL_law_313 (by decide) (fun _ => ?_) (fun c313 => absurd hs.1 c313)
                  refine W.widen (k := 51 + (k + 1)) (n := 40292 + 6 * (k + 1)) (by omega) (by omega) ?_
                  exact J687 _ _ _ _ _ _ hw (lv_sub hl [1, 2, 3, 4, 0] rfl) (hs.2)
                · refine sw_t K dL_law_39 (k := 6) (tgt := 318) (by decide) (by decide) (fun c39_6 => ?_) (fun c39_6 => ?_)
                  · refine lv_aload_n K.1 K.2.1 dL_law_318 rfl (lv_at hl 2 rfl) ?_
                    refine lv_aload_n K.1 K.2.1 dL_law_319 rfl (lv_at hl 1 rfl) ?_
                    refine lv_iload K.1 K.2.1 dL_law_320 (lv_at hl 0 rfl) ?_
                    refine lv_iconst (v := 1) K.1 K.2.1 dL_law_322 (by decide) ?_
                    refine lv_iadd K.1 K.2.1 dL_law_323 ?_
                    refine va_sld K.1 K.2.1 hX hbl hbA hw.2.2.1 hix.2.1 dL_law_324 ?_
                    refine lv_aload_n K.1 K.2.1 dL_law_325 rfl (lv_at hl 1 rfl) ?_
                    refine lv_iload K.1 K.2.1 dL_law_326 (lv_at hl 0 rfl) ?_
                    refine lv_iconst (v := 2) K.1 K.2.1 dL_law_328 (by decide) ?_
                    refine lv_iadd K.1 K.2.1 dL_law_329 ?_
                    refine va_sld K.1 K.2.1 hX hbl hbA hw.2.2.1 hix.2.2.1 dL_law_330 ?_
                    refine lv_aload_n K.1 K.2.1 dL_law_331 rfl (lv_at hl 4 rfl) ?_
                    refine fcH K hKo hXF hNc (hw.perm prm1) (c_L_glyph l hl0 D a cA o cO g σ (xs (Int32.toNatClampNeg (i + 1))) (xs (Int32.toNatClampNeg (i + 2))) hB) hl.1 (tt_SW km_L_66 kS_L_glyph ki_L kW_L_glyph) (na := 4) rfl (by decide +kernel) ⟨rfl, rfl⟩ ⟨by show 51 + k + 1 ≤ 601024; omega, by show 40292 + 6 * k + 6 ≤ 7293034; omega⟩ (by decide) rfl (Nat.le_of_ble_eq_true rfl) dL_law_332 (fun r5 u H locs hu hw => ?_)
                    have hw := hw.perm (List.Perm.symm prm1)
                    refine lv_istore (lv' := [(5, .int r5), (4, .int i), (0, .ref b), (1, .ref (a 0)), (2, .ref (b8 0)), (3, .ref o)]) K.1 K.2.1 dL_law_335 hl (by decide) rfl (fun ls hl => ?_)
                    refine lv_aload_n K.1 K.2.1 dL_law_337 rfl (lv_at hl 4 rfl) ?_
                    refine lv_aload_n K.1 K.2.1 dL_law_338 rfl (lv_at hl 2 rfl) ?_
                    refine lv_iload K.1 K.2.1 dL_law_339 (lv_at hl 1 rfl) ?_
                    refine lv_iconst (v := 1) K.1 K.2.1 dL_law_341 (by decide) ?_
                    refine lv_iadd K.1 K.2.1 dL_law_342 ?_
                    refine va_sld K.1 K.2.1 hX hbl hbA hw.2.2.1 hix.2.1 dL_law_343 ?_
                    refine lv_aload_n K.1 K.2.1 dL_law_344 rfl (lv_at hl 2 rfl) ?_
                    refine lv_iload K.1 K.2.1 dL_law_345 (lv_at hl 1 rfl) ?_
                    refine lv_iconst (v := 2) K.1 K.2.1 dL_law_347 (by decide) ?_
                    refine lv_iadd K.1 K.2.1 dL_law_348 ?_
                    refine va_sld K.1 K.2.1 hX hbl hbA hw.2.2.1 hix.2.2.1 dL_law_349 ?_
                    refine fcI K hK8 (hw.perm prm2) (c_X8_glyph l D b8 cB _ _ _ hM) hl.1 (tt_V km_L_71 kI_X8_glyph ks_X8_glyph ki_X8 kC_X8_glyph) 0 (ci := 8) rfl rfl rfl (na := 2) rfl (by decide +kernel) ⟨rfl, rfl⟩ ⟨by show 51 + k + 1 ≤ 601024; omega, by show 40292 + 6 * k + 6 ≤ 7293034; omega⟩ (by decide) rfl (Nat.le_of_ble_eq_true rfl) dL_law_350 (fun H locs hw => ?_)
                    have hw := hw.perm prm2
                    have hs := Sglyph k σ μ (xs (Int32.toNatClampNeg (i + 1))) (xs (Int32.toNatClampNeg (i + 2))) hk5 hR
                    refine lv_istore (lv' := [(6, .int (f_X8_glyph μ (xs (Int32.toNatClampNeg (i + 1))) (xs (Int32.toNatClampNeg (i + 2)))).2), (5, .int r5), (4, .int i), (0, .ref b), (1, .ref (a 0)), (2, .ref (b8 0)), (3, .ref o)]) K.1 K.2.1 dL_law_353 hl (by decide) rfl (fun ls hl => ?_)
                    refine lv_aload_n K.1 K.2.1 dL_law_355 rfl (lv_at hl 5 rfl) ?_
                    refine fcI K hK8 (hw.perm prm2) (c_X8_thrown l D b8 cB _) hl.1 (tt_V km_L_72 kI_X8_thrown ks_X8_thrown ki_X8 kC_X8_thrown) 0 (ci := 8) rfl rfl rfl (na := 0) rfl (by decide +kernel) ⟨rfl, rfl⟩ ⟨by show 51 + k + 1 ≤ 601024; omega, by show 40292 + 6 * k + 6 ≤ 7293034; omega⟩ (by decide) rfl (Nat.le_of_ble_eq_true rfl) dL_law_356 (fun H locs hw => ?_)
                    have hw := hw.perm prm2
                    refine lv_iload K.1 K.2.1 dL_law_359 (lv_at hl 1 rfl) ?_
                    refine lv_icmp_eq (tgt := 366) K.1 K.2.1 dL_law_361 (by decide) (fun _ => ?_) (fun c361 => absurd (hs.1.trans hu.1.symm) c361)
                    refine lv_iload K.1 K.2.1 dL_law_366 (lv_at hl 1 rfl) ?_
                    refine lv_if_ne (tgt := 383) K.1 K.2.1 dL_law_368 (by decide) (fun c368 => ?_) (fun c368 => ?_)
                    · refine lv_goto (tgt := 687) K.1 K.2.1 dL_law_383 (by decide) ?_
                      refine W.widen (k := 51 + (k + 1)) (n := 40292 + 6 * (k + 1)) (by omega) (by omega) ?_
                      exact J687 _ _ _ _ _ _ hw (lv_sub hl [3, 4, 5, 6, 2] rfl) (hs.2.2)
                    · refine lv_aload_n K.1 K.2.1 dL_law_371 rfl (lv_at hl 6 rfl) ?_
                      refine lv_iconst (v := 0) K.1 K.2.1 dL_law_372 (by decide) ?_
                      refine gJl K hw 50 23 outAt3 rfl (vi_0 (by decide)) dL_law_373 ?_
                      refine lv_iload K.1 K.2.1 dL_law_374 (lv_at hl 0 rfl) ?_
                      refine lv_i2l K.1 K.2.1 dL_law_376 rfl ?_
                      refine lc_eq (tgt := 383) K dL_law_377 dL_law_378 (by decide) (fun _ => ?_) (fun c377 => absurd ((hu.2  (hu.1 ▸ c368)).trans (congrArg Int32.toInt64 (hs.2.1 (hu.1 ▸ c368)))) c377)
                      refine lv_goto (tgt := 687) K.1 K.2.1 dL_law_383 (by decide) ?_
                      refine W.widen (k := 51 + (k + 1)) (n := 40292 + 6 * (k + 1)) (by omega) (by omega) ?_
                      exact J687 _ _ _ _ _ _ hw (lv_sub hl [3, 4, 5, 6, 2] rfl) (hs.2.2)
                  · refine sw_t K dL_law_39 (k := 7) (tgt := 386) (by decide) (by decide) (fun c39_7 => ?_) (fun c39_7 => ?_)
                    · refine lv_aload_n K.1 K.2.1 dL_law_386 rfl (lv_at hl 2 rfl) ?_
                      refine lv_aload_n K.1 K.2.1 dL_law_387 rfl (lv_at hl 1 rfl) ?_
                      refine lv_iload K.1 K.2.1 dL_law_388 (lv_at hl 0 rfl) ?_
                      refine lv_iconst (v := 1) K.1 K.2.1 dL_law_390 (by decide) ?_
                      refine lv_iadd K.1 K.2.1 dL_law_391 ?_
                      refine va_sld K.1 K.2.1 hX hbl hbA hw.2.2.1 hix.2.1 dL_law_392 ?_
                      refine lv_aload_n K.1 K.2.1 dL_law_393 rfl (lv_at hl 1 rfl) ?_
                      refine lv_iload K.1 K.2.1 dL_law_394 (lv_at hl 0 rfl) ?_
                      refine lv_iconst (v := 2) K.1 K.2.1 dL_law_396 (by decide) ?_
                      refine lv_iadd K.1 K.2.1 dL_law_397 ?_
                      refine va_sld K.1 K.2.1 hX hbl hbA hw.2.2.1 hix.2.2.1 dL_law_398 ?_
                      refine lv_aload_n K.1 K.2.1 dL_law_399 rfl (lv_at hl 4 rfl) ?_
                      refine fcH K hKo hXF hNc (hw.perm prm1) (c_L_page l hl0 D a cA o cO g σ (xs (Int32.toNatClampNeg (i + 1))) (xs (Int32.toNatClampNeg (i + 2)))) hl.1 (tt_SW km_L_76 kS_L_page ki_L kW_L_page) (na := 4) rfl (by decide +kernel) ⟨rfl, rfl⟩ ⟨by show 51 + k + 1 ≤ 601024; omega, by show 40292 + 6 * k + 6 ≤ 7293034; omega⟩ (by decide) rfl (Nat.le_of_ble_eq_true rfl) dL_law_400 (fun r5 u H locs hu hw => ?_)
                      have hw := hw.perm (List.Perm.symm prm1)
                      refine lv_istore (lv' := [(5, .int r5), (4, .int i), (0, .ref b), (1, .ref (a 0)), (2, .ref (b8 0)), (3, .ref o)]) K.1 K.2.1 dL_law_403 hl (by decide) rfl (fun ls hl => ?_)
                      refine lv_aload_n K.1 K.2.1 dL_law_405 rfl (lv_at hl 4 rfl) ?_
                      refine lv_aload_n K.1 K.2.1 dL_law_406 rfl (lv_at hl 2 rfl) ?_
                      refine lv_iload K.1 K.2.1 dL_law_407 (lv_at hl 1 rfl) ?_
                      refine lv_iconst (v := 1) K.1 K.2.1 dL_law_409 (by decide) ?_
                      refine lv_iadd K.1 K.2.1 dL_law_410 ?_
                      refine va_sld K.1 K.2.1 hX hbl hbA hw.2.2.1 hix.2.1 dL_law_411 ?_
                      refine lv_aload_n K.1 K.2.1 dL_law_412 rfl (lv_at hl 2 rfl) ?_
                      refine lv_iload K.1 K.2.1 dL_law_413 (lv_at hl 1 rfl) ?_
                      refine lv_iconst (v := 2) K.1 K.2.1 dL_law_415 (by decide) ?_
                      refine lv_iadd K.1 K.2.1 dL_law_416 ?_
                      refine va_sld K.1 K.2.1 hX hbl hbA hw.2.2.1 hix.2.2.1 dL_law_417 ?_
                      refine fcI K hK8 (hw.perm prm2) (c_X8_page l D b8 cB _ _ _) hl.1 (tt_V km_L_78 kI_X8_page ks_X8_page ki_X8 kC_X8_page) 0 (ci := 8) rfl rfl rfl (na := 2) rfl (by decide +kernel) ⟨rfl, rfl⟩ ⟨by show 51 + k + 1 ≤ 601024; omega, by show 40292 + 6 * k + 6 ≤ 7293034; omega⟩ (by decide) rfl (Nat.le_of_ble_eq_true rfl) dL_law_418 (fun H locs hw => ?_)
                      have hw := hw.perm prm2
                      have hs := Spage k σ μ (xs (Int32.toNatClampNeg (i + 1))) (xs (Int32.toNatClampNeg (i + 2))) hk5 hR
                      refine lv_istore (lv' := [(6, .int (f_X8_page μ (xs (Int32.toNatClampNeg (i + 1))) (xs (Int32.toNatClampNeg (i + 2)))).2), (5, .int r5), (4, .int i), (0, .ref b), (1, .ref (a 0)), (2, .ref (b8 0)), (3, .ref o)]) K.1 K.2.1 dL_law_421 hl (by decide) rfl (fun ls hl => ?_)
                      refine lv_aload_n K.1 K.2.1 dL_law_423 rfl (lv_at hl 5 rfl) ?_
                      refine fcI K hK8 (hw.perm prm2) (c_X8_thrown l D b8 cB _) hl.1 (tt_V km_L_72 kI_X8_thrown ks_X8_thrown ki_X8 kC_X8_thrown) 0 (ci := 8) rfl rfl rfl (na := 0) rfl (by decide +kernel) ⟨rfl, rfl⟩ ⟨by show 51 + k + 1 ≤ 601024; omega, by show 40292 + 6 * k + 6 ≤ 7293034; omega⟩ (by decide) rfl (Nat.le_of_ble_eq_true rfl) dL_law_424 (fun H locs hw => ?_)
                      have hw := hw.perm prm2
                      refine lv_iload K.1 K.2.1 dL_law_427 (lv_at hl 1 rfl) ?_
                      refine lv_icmp_eq (tgt := 434) K.1 K.2.1 dL_law_429 (by decide) (fun _ => ?_) (fun c429 => absurd (hs.1.trans hu.1.symm) c429)
                      refine lv_iload K.1 K.2.1 dL_law_434 (lv_at hl 1 rfl) ?_
                      refine lv_if_ne (tgt := 451) K.1 K.2.1 dL_law_436 (by decide) (fun c436 => ?_) (fun c436 => ?_)
                      · refine lv_goto (tgt := 687) K.1 K.2.1 dL_law_451 (by decide) ?_
                        refine W.widen (k := 51 + (k + 1)) (n := 40292 + 6 * (k + 1)) (by omega) (by omega) ?_
                        exact J687 _ _ _ _ _ _ hw (lv_sub hl [3, 4, 5, 6, 2] rfl) (hs.2.2)
                      · refine lv_aload_n K.1 K.2.1 dL_law_439 rfl (lv_at hl 6 rfl) ?_
                        refine lv_iconst (v := 0) K.1 K.2.1 dL_law_440 (by decide) ?_
                        refine gJl K hw 50 23 outAt3 rfl (vi_0 (by decide)) dL_law_441 ?_
                        refine lv_iload K.1 K.2.1 dL_law_442 (lv_at hl 0 rfl) ?_
                        refine lv_i2l K.1 K.2.1 dL_law_444 rfl ?_
                        refine lc_eq (tgt := 451) K dL_law_445 dL_law_446 (by decide) (fun _ => ?_) (fun c445 => absurd ((hu.2  (hu.1 ▸ c436)).trans (congrArg Int32.toInt64 (hs.2.1 (hu.1 ▸ c436)))) c445)
                        refine lv_goto (tgt := 687) K.1 K.2.1 dL_law_451 (by decide) ?_
                        refine W.widen (k := 51 + (k + 1)) (n := 40292 + 6 * (k + 1)) (by omega) (by omega) ?_
                        exact J687 _ _ _ _ _ _ hw (lv_sub hl [3, 4, 5, 6, 2] rfl) (hs.2.2)
                    · refine sw_t K dL_law_39 (k := 8) (tgt := 454) (by decide) (by decide) (fun c39_8 => ?_) (fun c39_8 => ?_)
                      · refine lv_aload_n K.1 K.2.1 dL_law_454 rfl (lv_at hl 2 rfl) ?_
                        refine lv_aload_n K.1 K.2.1 dL_law_455 rfl (lv_at hl 1 rfl) ?_
                        refine lv_iload K.1 K.2.1 dL_law_456 (lv_at hl 0 rfl) ?_
                        refine lv_iconst (v := 1) K.1 K.2.1 dL_law_458 (by decide) ?_
                        refine lv_iadd K.1 K.2.1 dL_law_459 ?_
                        refine va_sld K.1 K.2.1 hX hbl hbA hw.2.2.1 hix.2.1 dL_law_460 ?_
                        refine lv_aload_n K.1 K.2.1 dL_law_461 rfl (lv_at hl 4 rfl) ?_
                        refine fcH K hKo hXF hNc (hw.perm prm1) (c_L_other l hl0 D a cA o cO g σ (xs (Int32.toNatClampNeg (i + 1))) hB) hl.1 (tt_SW km_L_79 kS_L_other ki_L kW_L_other) (na := 3) rfl (by decide +kernel) ⟨rfl, rfl⟩ ⟨by show 51 + k + 1 ≤ 601024; omega, by show 40292 + 6 * k + 6 ≤ 7293034; omega⟩ (by decide) rfl (Nat.le_of_ble_eq_true rfl) dL_law_462 (fun r5 u H locs hu hw => ?_)
                        have hw := hw.perm (List.Perm.symm prm1)
                        refine lv_istore (lv' := [(5, .int r5), (4, .int i), (0, .ref b), (1, .ref (a 0)), (2, .ref (b8 0)), (3, .ref o)]) K.1 K.2.1 dL_law_465 hl (by decide) rfl (fun ls hl => ?_)
                        refine lv_aload_n K.1 K.2.1 dL_law_467 rfl (lv_at hl 4 rfl) ?_
                        refine lv_aload_n K.1 K.2.1 dL_law_468 rfl (lv_at hl 2 rfl) ?_
                        refine lv_iload K.1 K.2.1 dL_law_469 (lv_at hl 1 rfl) ?_
                        refine lv_iconst (v := 1) K.1 K.2.1 dL_law_471 (by decide) ?_
                        refine lv_iadd K.1 K.2.1 dL_law_472 ?_
                        refine va_sld K.1 K.2.1 hX hbl hbA hw.2.2.1 hix.2.1 dL_law_473 ?_
                        refine fcI K hK8 (hw.perm prm2) (c_X8_other l D b8 cB _ _) hl.1 (tt_V km_L_82 kI_X8_other ks_X8_other ki_X8 kC_X8_other) 0 (ci := 8) rfl rfl rfl (na := 1) rfl (by decide +kernel) ⟨rfl, rfl⟩ ⟨by show 51 + k + 1 ≤ 601024; omega, by show 40292 + 6 * k + 6 ≤ 7293034; omega⟩ (by decide) rfl (Nat.le_of_ble_eq_true rfl) dL_law_474 (fun H locs hw => ?_)
                        have hw := hw.perm prm2
                        have hs := Sother k σ μ (xs (Int32.toNatClampNeg (i + 1))) hk5 hR
                        refine lv_istore (lv' := [(6, .int (f_X8_other μ (xs (Int32.toNatClampNeg (i + 1)))).2), (5, .int r5), (4, .int i), (0, .ref b), (1, .ref (a 0)), (2, .ref (b8 0)), (3, .ref o)]) K.1 K.2.1 dL_law_477 hl (by decide) rfl (fun ls hl => ?_)
                        refine lv_aload_n K.1 K.2.1 dL_law_479 rfl (lv_at hl 5 rfl) ?_
                        refine fcI K hK8 (hw.perm prm2) (c_X8_thrown l D b8 cB _) hl.1 (tt_V km_L_72 kI_X8_thrown ks_X8_thrown ki_X8 kC_X8_thrown) 0 (ci := 8) rfl rfl rfl (na := 0) rfl (by decide +kernel) ⟨rfl, rfl⟩ ⟨by show 51 + k + 1 ≤ 601024; omega, by show 40292 + 6 * k + 6 ≤ 7293034; omega⟩ (by decide) rfl (Nat.le_of_ble_eq_true rfl) dL_law_480 (fun H locs hw => ?_)
                        have hw := hw.perm prm2
                        refine lv_iload K.1 K.2.1 dL_law_483 (lv_at hl 1 rfl) ?_
                        refine lv_icmp_eq (tgt := 490) K.1 K.2.1 dL_law_485 (by decide) (fun _ => ?_) (fun c485 => absurd (hs.1.trans hu.1.symm) c485)
                        refine lv_iload K.1 K.2.1 dL_law_490 (lv_at hl 1 rfl) ?_
                        refine lv_if_ne (tgt := 507) K.1 K.2.1 dL_law_492 (by decide) (fun c492 => ?_) (fun c492 => ?_)
                        · refine lv_goto (tgt := 687) K.1 K.2.1 dL_law_507 (by decide) ?_
                          refine W.widen (k := 51 + (k + 1)) (n := 40292 + 6 * (k + 1)) (by omega) (by omega) ?_
                          exact J687 _ _ _ _ _ _ hw (lv_sub hl [3, 4, 5, 6, 2] rfl) (hs.2.2)
                        · refine lv_aload_n K.1 K.2.1 dL_law_495 rfl (lv_at hl 6 rfl) ?_
                          refine lv_iconst (v := 0) K.1 K.2.1 dL_law_496 (by decide) ?_
                          refine gJl K hw 50 23 outAt3 rfl (vi_0 (by decide)) dL_law_497 ?_
                          refine lv_iload K.1 K.2.1 dL_law_498 (lv_at hl 0 rfl) ?_
                          refine lv_i2l K.1 K.2.1 dL_law_500 rfl ?_
                          refine lc_eq (tgt := 507) K dL_law_501 dL_law_502 (by decide) (fun _ => ?_) (fun c501 => absurd ((hu.2  (hu.1 ▸ c492)).trans (congrArg Int32.toInt64 (hs.2.1 (hu.1 ▸ c492)))) c501)
                          refine lv_goto (tgt := 687) K.1 K.2.1 dL_law_507 (by decide) ?_
                          refine W.widen (k := 51 + (k + 1)) (n := 40292 + 6 * (k + 1)) (by omega) (by omega) ?_
                          exact J687 _ _ _ _ _ _ hw (lv_sub hl [3, 4, 5, 6, 2] rfl) (hs.2.2)
                      · refine sw_t K dL_law_39 (k := 9) (tgt := 510) (by decide) (by decide) (fun c39_9 => ?_) (fun c39_9 => ?_)
                        · refine lv_aload_n K.1 K.2.1 dL_law_510 rfl (lv_at hl 2 rfl) ?_
                          refine lv_aload_n K.1 K.2.1 dL_law_511 rfl (lv_at hl 1 rfl) ?_
                          refine lv_iload K.1 K.2.1 dL_law_512 (lv_at hl 0 rfl) ?_
                          refine lv_iconst (v := 1) K.1 K.2.1 dL_law_514 (by decide) ?_
                          refine lv_iadd K.1 K.2.1 dL_law_515 ?_
                          refine va_sld K.1 K.2.1 hX hbl hbA hw.2.2.1 hix.2.1 dL_law_516 ?_
                          refine lv_aload_n K.1 K.2.1 dL_law_517 rfl (lv_at hl 4 rfl) ?_
                          refine fcH K hKo hXF hNc (hw.perm prm1) (c_L_data l hl0 D a cA o cO g σ (xs (Int32.toNatClampNeg (i + 1))) hB) hl.1 (tt_SW km_L_83 kS_L_data ki_L kW_L_data) (na := 3) rfl (by decide +kernel) ⟨rfl, rfl⟩ ⟨by show 51 + k + 1 ≤ 601024; omega, by show 40292 + 6 * k + 6 ≤ 7293034; omega⟩ (by decide) rfl (Nat.le_of_ble_eq_true rfl) dL_law_518 (fun r5 u H locs hu hw => ?_)
                          have hw := hw.perm (List.Perm.symm prm1)
                          refine lv_istore (lv' := [(5, .int r5), (4, .int i), (0, .ref b), (1, .ref (a 0)), (2, .ref (b8 0)), (3, .ref o)]) K.1 K.2.1 dL_law_521 hl (by decide) rfl (fun ls hl => ?_)
                          refine lv_aload_n K.1 K.2.1 dL_law_523 rfl (lv_at hl 4 rfl) ?_
                          refine lv_aload_n K.1 K.2.1 dL_law_524 rfl (lv_at hl 2 rfl) ?_
                          refine lv_iload K.1 K.2.1 dL_law_525 (lv_at hl 1 rfl) ?_
                          refine lv_iconst (v := 1) K.1 K.2.1 dL_law_527 (by decide) ?_
                          refine lv_iadd K.1 K.2.1 dL_law_528 ?_
                          refine va_sld K.1 K.2.1 hX hbl hbA hw.2.2.1 hix.2.1 dL_law_529 ?_
                          refine fcL K hK8 (hw.perm prm2) (c_X8_data l D b8 cB _ _) hl.1 (tt_V km_L_85 kI_X8_data ks_X8_data ki_X8 kC_X8_data) 0 (ci := 8) rfl rfl rfl (na := 1) rfl (by decide +kernel) ⟨rfl, rfl⟩ ⟨by show 51 + k + 1 ≤ 601024; omega, by show 40292 + 6 * k + 6 ≤ 7293034; omega⟩ (by decide) rfl (Nat.le_of_ble_eq_true rfl) dL_law_530 (fun H locs hw => ?_)
                          have hw := hw.perm prm2
                          have hs := Sdata k σ μ (xs (Int32.toNatClampNeg (i + 1))) hk5 hR
                          refine lv_lstore (lv' := [(6, .long (f_X8_data μ (xs (Int32.toNatClampNeg (i + 1)))).2), (5, .int r5), (4, .int i), (0, .ref b), (1, .ref (a 0)), (2, .ref (b8 0)), (3, .ref o)]) K.1 K.2.1 dL_law_533 hl (by decide) rfl (fun ls hl => ?_)
                          refine lv_aload_n K.1 K.2.1 dL_law_535 rfl (lv_at hl 5 rfl) ?_
                          refine fcI K hK8 (hw.perm prm2) (c_X8_thrown l D b8 cB _) hl.1 (tt_V km_L_72 kI_X8_thrown ks_X8_thrown ki_X8 kC_X8_thrown) 0 (ci := 8) rfl rfl rfl (na := 0) rfl (by decide +kernel) ⟨rfl, rfl⟩ ⟨by show 51 + k + 1 ≤ 601024; omega, by show 40292 + 6 * k + 6 ≤ 7293034; omega⟩ (by decide) rfl (Nat.le_of_ble_eq_true rfl) dL_law_536 (fun H locs hw => ?_)
                          have hw := hw.perm prm2
                          refine lv_iload K.1 K.2.1 dL_law_539 (lv_at hl 1 rfl) ?_
                          refine lv_icmp_eq (tgt := 546) K.1 K.2.1 dL_law_541 (by decide) (fun _ => ?_) (fun c541 => absurd (hs.1.trans hu.1.symm) c541)
                          refine lv_iload K.1 K.2.1 dL_law_546 (lv_at hl 1 rfl) ?_
                          refine lv_if_ne (tgt := 562) K.1 K.2.1 dL_law_548 (by decide) (fun c548 => ?_) (fun c548 => ?_)
                          · refine lv_goto (tgt := 687) K.1 K.2.1 dL_law_562 (by decide) ?_
                            refine W.widen (k := 51 + (k + 1)) (n := 40292 + 6 * (k + 1)) (by omega) (by omega) ?_
                            exact J687 _ _ _ _ _ _ hw (lv_sub hl [3, 4, 5, 6, 2] rfl) (hs.2.2)
                          · refine lv_aload_n K.1 K.2.1 dL_law_551 rfl (lv_at hl 6 rfl) ?_
                            refine lv_iconst (v := 0) K.1 K.2.1 dL_law_552 (by decide) ?_
                            refine gJl K hw 50 23 outAt3 rfl (vi_0 (by decide)) dL_law_553 ?_
                            refine lv_lload K.1 K.2.1 dL_law_554 (lv_at hl 0 rfl) ?_
                            refine lc_eq (tgt := 562) K dL_law_556 dL_law_557 (by decide) (fun _ => ?_) (fun c556 => absurd ((hu.2  (hu.1 ▸ c548)).trans (congrArg id (hs.2.1 (hu.1 ▸ c548)))) c556)
                            refine lv_goto (tgt := 687) K.1 K.2.1 dL_law_562 (by decide) ?_
                            refine W.widen (k := 51 + (k + 1)) (n := 40292 + 6 * (k + 1)) (by omega) (by omega) ?_
                            exact J687 _ _ _ _ _ _ hw (lv_sub hl [3, 4, 5, 6, 2] rfl) (hs.2.2)
                        · refine sw_t K dL_law_39 (k := 10) (tgt := 565) (by decide) (by decide) (fun c39_10 => ?_) (fun c39_10 => ?_)
                          · refine lv_aload_n K.1 K.2.1 dL_law_565 rfl (lv_at hl 2 rfl) ?_
                            refine fcI K hK7 hw (c_X7_take l D a cA σ hB) hl.1 (tt_V km_L_86 kI_X7_take ks_X7_take ki_X7 kC_X7_take) 0 (ci := 7) rfl rfl rfl (na := 0) rfl (by decide +kernel) ⟨rfl, rfl⟩ ⟨by show 51 + k ≤ 601024; omega, by show 40292 + 6 * k ≤ 7293034; omega⟩ (by decide) rfl (Nat.le_of_ble_eq_true rfl) dL_law_566 (fun H locs hw => ?_)
                            refine lv_aload_n K.1 K.2.1 dL_law_569 rfl (lv_at hl 3 rfl) ?_
                            refine fcI K hK8 (hw.perm prm2) (c_X8_take l D b8 cB _ hM h5) hl.1 (tt_V km_L_90 kI_X8_take ks_X8_take ki_X8 kC_X8_take) 0 (ci := 8) rfl rfl rfl (na := 0) rfl (by decide +kernel) ⟨rfl, rfl⟩ ⟨by show 51 + k ≤ 601024; omega, by show 40292 + 6 * k ≤ 7293034; omega⟩ (by decide) rfl (Nat.le_of_ble_eq_true rfl) dL_law_570 (fun H locs hw => ?_)
                            have hw := hw.perm prm2
                            have hs := Stake k σ μ hk5 hR
                            refine lv_icmp_eq (tgt := 687) K.1 K.2.1 dL_law_573 (by decide) (fun _ => ?_) (fun c573 => absurd hs.1 c573)
                            refine W.widen (k := 51 + (k + 1)) (n := 40292 + 6 * (k + 1)) (by omega) (by omega) ?_
                            exact J687 _ _ _ _ _ _ hw (lv_sub hl [1, 2, 3, 4, 0] rfl) (hs.2)
                          · refine sw_t K dL_law_39 (k := 11) (tgt := 578) (by decide) (by decide) (fun c39_11 => ?_) (fun c39_11 => ?_)
                            · refine lv_aload_n K.1 K.2.1 dL_law_578 rfl (lv_at hl 2 rfl) ?_
                              refine lv_aload_n K.1 K.2.1 dL_law_579 rfl (lv_at hl 1 rfl) ?_
                              refine lv_iload K.1 K.2.1 dL_law_580 (lv_at hl 0 rfl) ?_
                              refine lv_iconst (v := 1) K.1 K.2.1 dL_law_582 (by decide) ?_
                              refine lv_iadd K.1 K.2.1 dL_law_583 ?_
                              refine va_sld K.1 K.2.1 hX hbl hbA hw.2.2.1 hix.2.1 dL_law_584 ?_
                              refine lv_aload_n K.1 K.2.1 dL_law_585 rfl (lv_at hl 1 rfl) ?_
                              refine lv_iload K.1 K.2.1 dL_law_586 (lv_at hl 0 rfl) ?_
                              refine lv_iconst (v := 2) K.1 K.2.1 dL_law_588 (by decide) ?_
                              refine lv_iadd K.1 K.2.1 dL_law_589 ?_
                              refine va_sld K.1 K.2.1 hX hbl hbA hw.2.2.1 hix.2.2.1 dL_law_590 ?_
                              refine lv_if_eq (tgt := 598) K.1 K.2.1 dL_law_591 (by decide) (fun cy => ?_) (fun cy => ?_)
                              · refine lv_iconst (v := 0) K.1 K.2.1 dL_law_598 (by decide) ?_
                                refine lv_aload_n K.1 K.2.1 dL_law_599 rfl (lv_at hl 4 rfl) ?_
                                refine fcH K hKo hXF hNc (hw.perm prm1) (c_L_place l hl0 D a cA o cO g σ (xs (Int32.toNatClampNeg (i + 1))) 0 hB) hl.1 (tt_SW km_L_91 kS_L_place ki_L kW_L_place) (na := 4) rfl (by decide +kernel) ⟨rfl, rfl⟩ ⟨by show 51 + k + 1 ≤ 601024; omega, by show 40292 + 6 * k + 6 ≤ 7293034; omega⟩ (by decide) rfl (Nat.le_of_ble_eq_true rfl) dL_law_600 (fun r5 u H locs hu hw => ?_)
                                have hw := hw.perm (List.Perm.symm prm1)
                                refine lv_istore (lv' := [(5, .int r5), (4, .int i), (0, .ref b), (1, .ref (a 0)), (2, .ref (b8 0)), (3, .ref o)]) K.1 K.2.1 dL_law_603 hl (by decide) rfl (fun ls hl => ?_)
                                refine lv_aload_n K.1 K.2.1 dL_law_605 rfl (lv_at hl 4 rfl) ?_
                                refine lv_aload_n K.1 K.2.1 dL_law_606 rfl (lv_at hl 2 rfl) ?_
                                refine lv_iload K.1 K.2.1 dL_law_607 (lv_at hl 1 rfl) ?_
                                refine lv_iconst (v := 1) K.1 K.2.1 dL_law_609 (by decide) ?_
                                refine lv_iadd K.1 K.2.1 dL_law_610 ?_
                                refine va_sld K.1 K.2.1 hX hbl hbA hw.2.2.1 hix.2.1 dL_law_611 ?_
                                refine lv_aload_n K.1 K.2.1 dL_law_612 rfl (lv_at hl 2 rfl) ?_
                                refine lv_iload K.1 K.2.1 dL_law_613 (lv_at hl 1 rfl) ?_
                                refine lv_iconst (v := 2) K.1 K.2.1 dL_law_615 (by decide) ?_
                                refine lv_iadd K.1 K.2.1 dL_law_616 ?_
                                refine va_sld K.1 K.2.1 hX hbl hbA hw.2.2.1 hix.2.2.1 dL_law_617 ?_
                                refine lv_if_eq (tgt := 625) K.1 K.2.1 dL_law_618 (by decide) (fun cz => ?_) (fun cz => ?_)
                                · refine lv_iconst (v := 0) K.1 K.2.1 dL_law_625 (by decide) ?_
                                  refine fcI K hK8 (hw.perm prm2) (c_X8_place l D b8 cB _ _ _ hM) hl.1 (tt_V km_L_94 kI_X8_place ks_X8_place ki_X8 kC_X8_place) 0 (ci := 8) rfl rfl rfl (na := 2) rfl (by decide +kernel) ⟨rfl, rfl⟩ ⟨by show 51 + k + 1 ≤ 601024; omega, by show 40292 + 6 * k + 6 ≤ 7293034; omega⟩ (by decide) rfl (Nat.le_of_ble_eq_true rfl) dL_law_626 (fun H locs hw => ?_)
                                  have hw := hw.perm prm2
                                  have hs := Splace k σ μ (xs (Int32.toNatClampNeg (i + 1))) 0 hk5 hR
                                  refine lv_istore (lv' := [(6, .int (f_X8_place μ (xs (Int32.toNatClampNeg (i + 1))) 0).2), (5, .int r5), (4, .int i), (0, .ref b), (1, .ref (a 0)), (2, .ref (b8 0)), (3, .ref o)]) K.1 K.2.1 dL_law_629 hl (by decide) rfl (fun ls hl => ?_)
                                  refine lv_aload_n K.1 K.2.1 dL_law_631 rfl (lv_at hl 5 rfl) ?_
                                  refine fcI K hK8 (hw.perm prm2) (c_X8_thrown l D b8 cB _) hl.1 (tt_V km_L_72 kI_X8_thrown ks_X8_thrown ki_X8 kC_X8_thrown) 0 (ci := 8) rfl rfl rfl (na := 0) rfl (by decide +kernel) ⟨rfl, rfl⟩ ⟨by show 51 + k + 1 ≤ 601024; omega, by show 40292 + 6 * k + 6 ≤ 7293034; omega⟩ (by decide) rfl (Nat.le_of_ble_eq_true rfl) dL_law_632 (fun H locs hw => ?_)
                                  have hw := hw.perm prm2
                                  refine lv_iload K.1 K.2.1 dL_law_635 (lv_at hl 1 rfl) ?_
                                  refine lv_icmp_eq (tgt := 642) K.1 K.2.1 dL_law_637 (by decide) (fun _ => ?_) (fun c637 => absurd (hs.1.trans hu.1.symm) c637)
                                  refine lv_iload K.1 K.2.1 dL_law_642 (lv_at hl 1 rfl) ?_
                                  refine lv_if_ne (tgt := 659) K.1 K.2.1 dL_law_644 (by decide) (fun c644 => ?_) (fun c644 => ?_)
                                  · refine lv_goto (tgt := 687) K.1 K.2.1 dL_law_659 (by decide) ?_
                                    refine W.widen (k := 51 + (k + 1)) (n := 40292 + 6 * (k + 1)) (by omega) (by omega) ?_
                                    exact J687 _ _ _ _ _ _ hw (lv_sub hl [3, 4, 5, 6, 2] rfl) (hs.2.2)
                                  · refine lv_aload_n K.1 K.2.1 dL_law_647 rfl (lv_at hl 6 rfl) ?_
                                    refine lv_iconst (v := 0) K.1 K.2.1 dL_law_648 (by decide) ?_
                                    refine gJl K hw 50 23 outAt3 rfl (vi_0 (by decide)) dL_law_649 ?_
                                    refine lv_iload K.1 K.2.1 dL_law_650 (lv_at hl 0 rfl) ?_
                                    refine lv_i2l K.1 K.2.1 dL_law_652 rfl ?_
                                    refine lc_eq (tgt := 659) K dL_law_653 dL_law_654 (by decide) (fun _ => ?_) (fun c653 => absurd ((hu.2  (hu.1 ▸ c644)).trans (congrArg Int32.toInt64 (hs.2.1 (hu.1 ▸ c644)))) c653)
                                    refine lv_goto (tgt := 687) K.1 K.2.1 dL_law_659 (by decide) ?_
                                    refine W.widen (k := 51 + (k + 1)) (n := 40292 + 6 * (k + 1)) (by omega) (by omega) ?_
                                    exact J687 _ _ _ _ _ _ hw (lv_sub hl [3, 4, 5, 6, 2] rfl) (hs.2.2)
                                · exact absurd cy cz
                              · refine lv_iconst (v := 1) K.1 K.2.1 dL_law_594 (by decide) ?_
                                refine lv_goto (tgt := 599) K.1 K.2.1 dL_law_595 (by decide) ?_
                                refine lv_aload_n K.1 K.2.1 dL_law_599 rfl (lv_at hl 4 rfl) ?_
                                refine fcH K hKo hXF hNc (hw.perm prm1) (c_L_place l hl0 D a cA o cO g σ (xs (Int32.toNatClampNeg (i + 1))) 1 hB) hl.1 (tt_SW km_L_91 kS_L_place ki_L kW_L_place) (na := 4) rfl (by decide +kernel) ⟨rfl, rfl⟩ ⟨by show 51 + k + 1 ≤ 601024; omega, by show 40292 + 6 * k + 6 ≤ 7293034; omega⟩ (by decide) rfl (Nat.le_of_ble_eq_true rfl) dL_law_600 (fun r5 u H locs hu hw => ?_)
                                have hw := hw.perm (List.Perm.symm prm1)
                                refine lv_istore (lv' := [(5, .int r5), (4, .int i), (0, .ref b), (1, .ref (a 0)), (2, .ref (b8 0)), (3, .ref o)]) K.1 K.2.1 dL_law_603 hl (by decide) rfl (fun ls hl => ?_)
                                refine lv_aload_n K.1 K.2.1 dL_law_605 rfl (lv_at hl 4 rfl) ?_
                                refine lv_aload_n K.1 K.2.1 dL_law_606 rfl (lv_at hl 2 rfl) ?_
                                refine lv_iload K.1 K.2.1 dL_law_607 (lv_at hl 1 rfl) ?_
                                refine lv_iconst (v := 1) K.1 K.2.1 dL_law_609 (by decide) ?_
                                refine lv_iadd K.1 K.2.1 dL_law_610 ?_
                                refine va_sld K.1 K.2.1 hX hbl hbA hw.2.2.1 hix.2.1 dL_law_611 ?_
                                refine lv_aload_n K.1 K.2.1 dL_law_612 rfl (lv_at hl 2 rfl) ?_
                                refine lv_iload K.1 K.2.1 dL_law_613 (lv_at hl 1 rfl) ?_
                                refine lv_iconst (v := 2) K.1 K.2.1 dL_law_615 (by decide) ?_
                                refine lv_iadd K.1 K.2.1 dL_law_616 ?_
                                refine va_sld K.1 K.2.1 hX hbl hbA hw.2.2.1 hix.2.2.1 dL_law_617 ?_
                                refine lv_if_eq (tgt := 625) K.1 K.2.1 dL_law_618 (by decide) (fun cz => ?_) (fun cz => ?_)
                                · exact absurd cz cy
                                · refine lv_iconst (v := 1) K.1 K.2.1 dL_law_621 (by decide) ?_
                                  refine lv_goto (tgt := 626) K.1 K.2.1 dL_law_622 (by decide) ?_
                                  refine fcI K hK8 (hw.perm prm2) (c_X8_place l D b8 cB _ _ _ hM) hl.1 (tt_V km_L_94 kI_X8_place ks_X8_place ki_X8 kC_X8_place) 0 (ci := 8) rfl rfl rfl (na := 2) rfl (by decide +kernel) ⟨rfl, rfl⟩ ⟨by show 51 + k + 1 ≤ 601024; omega, by show 40292 + 6 * k + 6 ≤ 7293034; omega⟩ (by decide) rfl (Nat.le_of_ble_eq_true rfl) dL_law_626 (fun H locs hw => ?_)
                                  have hw := hw.perm prm2
                                  have hs := Splace k σ μ (xs (Int32.toNatClampNeg (i + 1))) 1 hk5 hR
                                  refine lv_istore (lv' := [(6, .int (f_X8_place μ (xs (Int32.toNatClampNeg (i + 1))) 1).2), (5, .int r5), (4, .int i), (0, .ref b), (1, .ref (a 0)), (2, .ref (b8 0)), (3, .ref o)]) K.1 K.2.1 dL_law_629 hl (by decide) rfl (fun ls hl => ?_)
                                  refine lv_aload_n K.1 K.2.1 dL_law_631 rfl (lv_at hl 5 rfl) ?_
                                  refine fcI K hK8 (hw.perm prm2) (c_X8_thrown l D b8 cB _) hl.1 (tt_V km_L_72 kI_X8_thrown ks_X8_thrown ki_X8 kC_X8_thrown) 0 (ci := 8) rfl rfl rfl (na := 0) rfl (by decide +kernel) ⟨rfl, rfl⟩ ⟨by show 51 + k + 1 ≤ 601024; omega, by show 40292 + 6 * k + 6 ≤ 7293034; omega⟩ (by decide) rfl (Nat.le_of_ble_eq_true rfl) dL_law_632 (fun H locs hw => ?_)
                                  have hw := hw.perm prm2
                                  refine lv_iload K.1 K.2.1 dL_law_635 (lv_at hl 1 rfl) ?_
                                  refine lv_icmp_eq (tgt := 642) K.1 K.2.1 dL_law_637 (by decide) (fun _ => ?_) (fun c637 => absurd (hs.1.trans hu.1.symm) c637)
                                  refine lv_iload K.1 K.2.1 dL_law_642 (lv_at hl 1 rfl) ?_
                                  refine lv_if_ne (tgt := 659) K.1 K.2.1 dL_law_644 (by decide) (fun c644 => ?_) (fun c644 => ?_)
                                  · refine lv_goto (tgt := 687) K.1 K.2.1 dL_law_659 (by decide) ?_
                                    refine W.widen (k := 51 + (k + 1)) (n := 40292 + 6 * (k + 1)) (by omega) (by omega) ?_
                                    exact J687 _ _ _ _ _ _ hw (lv_sub hl [3, 4, 5, 6, 2] rfl) (hs.2.2)
                                  · refine lv_aload_n K.1 K.2.1 dL_law_647 rfl (lv_at hl 6 rfl) ?_
                                    refine lv_iconst (v := 0) K.1 K.2.1 dL_law_648 (by decide) ?_
                                    refine gJl K hw 50 23 outAt3 rfl (vi_0 (by decide)) dL_law_649 ?_
                                    refine lv_iload K.1 K.2.1 dL_law_650 (lv_at hl 0 rfl) ?_
                                    refine lv_i2l K.1 K.2.1 dL_law_652 rfl ?_
                                    refine lc_eq (tgt := 659) K dL_law_653 dL_law_654 (by decide) (fun _ => ?_) (fun c653 => absurd ((hu.2  (hu.1 ▸ c644)).trans (congrArg Int32.toInt64 (hs.2.1 (hu.1 ▸ c644)))) c653)
                                    refine lv_goto (tgt := 687) K.1 K.2.1 dL_law_659 (by decide) ?_
                                    refine W.widen (k := 51 + (k + 1)) (n := 40292 + 6 * (k + 1)) (by omega) (by omega) ?_
                                    exact J687 _ _ _ _ _ _ hw (lv_sub hl [3, 4, 5, 6, 2] rfl) (hs.2.2)
                            · refine sw_t K dL_law_39 (k := 12) (tgt := 662) (by decide) (by decide) (fun c39_12 => ?_) (fun c39_12 => ?_)
                              · refine lv_aload_n K.1 K.2.1 dL_law_662 rfl (lv_at hl 2 rfl) ?_
                                refine lv_aload_n K.1 K.2.1 dL_law_663 rfl (lv_at hl 1 rfl) ?_
                                refine lv_iload K.1 K.2.1 dL_law_664 (lv_at hl 0 rfl) ?_
                                refine lv_iconst (v := 1) K.1 K.2.1 dL_law_666 (by decide) ?_
                                refine lv_iadd K.1 K.2.1 dL_law_667 ?_
                                refine va_sld K.1 K.2.1 hX hbl hbA hw.2.2.1 hix.2.1 dL_law_668 ?_
                                refine fcI K hK7 hw (c_X7_look l D a cA σ _) hl.1 (tt_V km_L_95 kI_X7_look ks_X7_look ki_X7 kC_X7_look) 0 (ci := 7) rfl rfl rfl (na := 1) rfl (by decide +kernel) ⟨rfl, rfl⟩ ⟨by show 51 + k ≤ 601024; omega, by show 40292 + 6 * k ≤ 7293034; omega⟩ (by decide) rfl (Nat.le_of_ble_eq_true rfl) dL_law_669 (fun H locs hw => ?_)
                                refine lv_aload_n K.1 K.2.1 dL_law_672 rfl (lv_at hl 3 rfl) ?_
                                refine lv_aload_n K.1 K.2.1 dL_law_673 rfl (lv_at hl 1 rfl) ?_
                                refine lv_iload K.1 K.2.1 dL_law_674 (lv_at hl 0 rfl) ?_
                                refine lv_iconst (v := 1) K.1 K.2.1 dL_law_676 (by decide) ?_
                                refine lv_iadd K.1 K.2.1 dL_law_677 ?_
                                refine va_sld K.1 K.2.1 hX hbl hbA hw.2.2.1 hix.2.1 dL_law_678 ?_
                                refine fcI K hK8 (hw.perm prm2) (c_X8_look l D b8 cB _ _) hl.1 (tt_V km_L_98 kI_X8_look ks_X8_look ki_X8 kC_X8_look) 0 (ci := 8) rfl rfl rfl (na := 1) rfl (by decide +kernel) ⟨rfl, rfl⟩ ⟨by show 51 + k ≤ 601024; omega, by show 40292 + 6 * k ≤ 7293034; omega⟩ (by decide) rfl (Nat.le_of_ble_eq_true rfl) dL_law_679 (fun H locs hw => ?_)
                                have hw := hw.perm prm2
                                have hs := Slook k σ μ (xs (Int32.toNatClampNeg (i + 1))) hk5 hR
                                refine lv_icmp_eq (tgt := 687) K.1 K.2.1 dL_law_682 (by decide) (fun _ => ?_) (fun c682 => absurd hs.1 c682)
                                refine W.widen (k := 51 + (k + 1)) (n := 40292 + 6 * (k + 1)) (by omega) (by omega) ?_
                                exact J687 _ _ _ _ _ _ hw (lv_sub hl [1, 2, 3, 4, 0] rfl) (hs.2)
                              · refine lv_tableOut (tgt := 687) K.1 K.2.1 dL_law_39 (by have h0 := lv_neT c39_0 (a := 0) rfl; have h1 := lv_neT c39_1 (a := 1) rfl; have h2 := lv_neT c39_2 (a := 2) rfl; have h3 := lv_neT c39_3 (a := 3) rfl; have h4 := lv_neT c39_4 (a := 4) rfl; have h5 := lv_neT c39_5 (a := 5) rfl; have h6 := lv_neT c39_6 (a := 6) rfl; have h7 := lv_neT c39_7 (a := 7) rfl; have h8 := lv_neT c39_8 (a := 8) rfl; have h9 := lv_neT c39_9 (a := 9) rfl; have h10 := lv_neT c39_10 (a := 10) rfl; have h11 := lv_neT c39_11 (a := 11) rfl; have h12 := lv_neT c39_12 (a := 12) rfl; omega) (by decide) ?_
                                refine W.widen (k := 51 + (k + 1)) (n := 40292 + 6 * (k + 1)) (by omega) (by omega) ?_
                                exact J687 _ _ _ _ _ _ hw (lv_sub hl [1, 2, 3, 4, 0] rfl) (Snone k σ μ hk5 hR)
