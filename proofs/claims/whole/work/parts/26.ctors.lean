/-! the constructors -/
theorem arrV_cg {cA : ClassId} {n : Nat} {f g : Nat → Value} (h : ∀ j, j < n → f j = g j) : arrV cA n f = arrV cA n g := by
  unfold arrV
  have e : (fun j : Fin n => f j.val) = fun j => g j.val := funext fun j => h j.val j.isLt
  rw [e]
theorem WD.cg {D : va_G} {A : Nat → Prop} {H0 H : Heap} {w : va_W} {locs : List Loc} {ad : Nat} {cA : ClassId} {x y : vp_A} (q : Nat) (hw : WD D A H0 w H locs) (he : w[q]? = some (ad, .inl (cA, x))) (hc : vp_cell cA x = vp_cell cA y) : WD D A H0 (w.set q (ad, .inl (cA, y))) H locs := by
  have hq : q < w.length := (List.getElem?_eq_some_iff.mp he).1
  refine ⟨fun k z hz => ?_, ⟨fun i j p1 p2 h1 h2 e9 => ?_, fun k z hz => ?_⟩, hw.2.2⟩
  · rw [List.getElem?_set] at hz
    split at hz
    · rename_i e9
      subst e9
      try rw [if_pos hq] at hz
      cases hz
      have := hw.1 q _ he
      show H[ad]? = some (vp_cell cA y)
      rw [← hc]; exact this
    · exact hw.1 k z hz
  · have g : ∀ (i : Nat) (p : Nat × va_E), (w.set q (ad, .inl (cA, y)))[i]? = some p → ∃ p', w[i]? = some p' ∧ p'.1 = p.1 := by
      intro i p h
      rw [List.getElem?_set] at h
      split at h
      · rename_i e8
        subst e8
        try rw [if_pos hq] at h
        cases h
        exact ⟨_, he, rfl⟩
      · exact ⟨p, h, rfl⟩
    obtain ⟨p1', h1', e1⟩ := g i p1 h1
    obtain ⟨p2', h2', e2⟩ := g j p2 h2
    exact hw.2.1.1 i j p1' p2' h1' h2' (e1.trans (e9.trans e2.symm))
  · rw [List.getElem?_set] at hz
    split at hz
    · rename_i e9
      subst e9
      try rw [if_pos hq] at hz
      cases hz
      show A ad
      exact hw.2.1.2 q (ad, .inl (cA, x)) he
    · exact hw.2.1.2 k z hz
theorem cellq_cg {cA : ClassId} {n : Nat} {f g : Nat → Option Nat} (h : ∀ j, j < n → f j = g j) : vp_cell cA (n, .inr (.inr (.inr (.inr f)))) = vp_cell cA (n, .inr (.inr (.inr (.inr g)))) := by
  show arrV cA n (fun j => va_rf (f j)) = arrV cA n (fun j => va_rf (g j))
  exact arrV_cg (fun j hj => by rw [h j hj])
theorem celli_cg {cA : ClassId} {n : Nat} {f g : Nat → Int32} (h : ∀ j, j < n → f j = g j) : vp_cell cA (n, .inl f) = vp_cell cA (n, .inl g) := by
  show arrV cA n (fun j => .int (f j)) = arrV cA n (fun j => .int (g j))
  exact arrV_cg (fun j hj => by rw [h j hj])
abbrev rm_X5_init : Room := { frames := 1, cells := 0, slots := 0, locals := 20 }
set_option maxHeartbeats 4000000 in
set_option maxRecDepth 100000 in
theorem c_X5_init (l : Launch) (D : va_G) (h0 : Nat) : CN l yX5_init cX5_init 1 rm_X5_init D [.ref h0] [(h0, .inr (5, [.int 0, .int 0, .int 0, .int 0, .int 0, .int 0, .int 0, .int 0, .int 0, .int 0, .int 0, .int 0, .int 0]))] (fun u : Unit => []) (fun u : Unit => [(h0, .inr (5, [.int 0, .int 0, .int 0, .int 0, .int 0, .int 0, .int 0, .int 0, .int 0, .int 0, .int 0, .int 0, .int 0]))]) 0 0 := by
  refine en_n (by decide +kernel) rfl (Nat.le_of_ble_eq_true rfl) ?_
  intro p e s m args below meth c A ls Q K hm hN hw hl ret
  have hl : lv_has ls 1 [(0, .ref h0)] := hl
  refine lv_aload_n K.1 K.2.1 dX5_init_0 rfl (lv_at hl 0 rfl) ?_
  refine kObj K km_X5_3 hl.1 dX5_init_1 ⟨by decide, Nat.le_of_ble_eq_true rfl⟩ ?_
  exact ret () hw K.2.2.2.2.1 dX5_init_4
abbrev rm_X4_init : Room := { frames := 1, cells := 0, slots := 0, locals := 20 }
set_option maxHeartbeats 4000000 in
set_option maxRecDepth 100000 in
theorem c_X4_init (l : Launch) (D : va_G) (h0 : Nat) : CN l yX4_init cX4_init 1 rm_X4_init D [.ref h0] [(h0, .inr (4, [.int 0, .int 0, .int 0, .int 0, .int 0]))] (fun u : Unit => []) (fun u : Unit => [(h0, .inr (4, [.int 0, .int 0, .int 0, .int 0, .int 0]))]) 0 0 := by
  refine en_n (by decide +kernel) rfl (Nat.le_of_ble_eq_true rfl) ?_
  intro p e s m args below meth c A ls Q K hm hN hw hl ret
  have hl : lv_has ls 1 [(0, .ref h0)] := hl
  refine lv_aload_n K.1 K.2.1 dX4_init_0 rfl (lv_at hl 0 rfl) ?_
  refine kObj K km_X4_1 hl.1 dX4_init_1 ⟨by decide, Nat.le_of_ble_eq_true rfl⟩ ?_
  exact ret () hw K.2.2.2.2.1 dX4_init_4
abbrev rm_X2_init : Room := { frames := 1, cells := 0, slots := 0, locals := 20 }
set_option maxHeartbeats 4000000 in
set_option maxRecDepth 100000 in
theorem c_X2_init (l : Launch) (D : va_G) (h0 : Nat) : CN l yX2_init cX2_init 1 rm_X2_init D [.ref h0] [(h0, .inr (2, [.int 0, .int 0, .int 0, .int 0, .int 0, .int 0, .int 0]))] (fun u : Unit => []) (fun u : Unit => [(h0, .inr (2, [.int 0, .int 0, .int 0, .int 0, .int 0, .int 0, .int 0]))]) 0 0 := by
  refine en_n (by decide +kernel) rfl (Nat.le_of_ble_eq_true rfl) ?_
  intro p e s m args below meth c A ls Q K hm hN hw hl ret
  have hl : lv_has ls 1 [(0, .ref h0)] := hl
  refine lv_aload_n K.1 K.2.1 dX2_init_0 rfl (lv_at hl 0 rfl) ?_
  refine kObj K km_X2_1 hl.1 dX2_init_1 ⟨by decide, Nat.le_of_ble_eq_true rfl⟩ ?_
  exact ret () hw K.2.2.2.2.1 dX2_init_4
abbrev rm_X1_init : Room := { frames := 1, cells := 2, slots := 40, locals := 20 }
set_option maxHeartbeats 4000000 in
set_option maxRecDepth 100000 in
theorem c_X1_init (l : Launch) (D : va_G) (h0 : Nat) : CN l yX1_init cX1_init 1 rm_X1_init D [.ref h0] [(h0, .inr (1, [.int 0, .int 0, .int 0, .int 0, .int 0, .int 0, .int 0, .int 0, .int 0, .int 0, .int 0, .int 0, .int 0, .null, .null]))] (fun u : (Nat × ClassId) × (Nat × ClassId) => [(u.1.2, .int), (u.2.2, .int)]) (fun u : (Nat × ClassId) × (Nat × ClassId) => [(h0, .inr (1, [.int 0, .int 0, .int 0, .int 0, .int 0, .int 0, .int 0, .int 0, .int 0, .int 0, .int 0, .int 0, .int 0, .ref u.1.1, .ref u.2.1])), (u.1.1, .inl (u.1.2, 20, .inl (fun _ => 0))), (u.2.1, .inl (u.2.2, 20, .inl (fun _ => 0)))]) 2 40 := by
  refine en_n (by decide +kernel) rfl (Nat.le_of_ble_eq_true rfl) ?_
  intro p e s m args below meth c A ls Q K hm hN hw hl ret
  have hl : lv_has ls 1 [(0, .ref h0)] := hl
  refine lv_aload_n K.1 K.2.1 dX1_init_0 rfl (lv_at hl 0 rfl) ?_
  refine kObj K km_X1_1 hl.1 dX1_init_1 ⟨by decide, Nat.le_of_ble_eq_true rfl⟩ ?_
  refine lv_aload_n K.1 K.2.1 dX1_init_4 rfl (lv_at hl 0 rfl) ?_
  refine lv_bipush (v := 20) K.1 K.2.1 dX1_init_5 (by decide) ?_
  refine kArr K hw (ty := .int) rfl ka_int (20, .inl (fun _ => 0)) (fun _ => rfl) (by decide) (by decide) (by decide) ⟨by decide, by decide⟩ dX1_init_7 (fun q7_5 k7_5 H K hw => ?_)
  refine kPutF K hm hw 0 13 (ci := 1) (T := TX1) (N := 15) (ty := .array .int) rfl rfl (by decide) iX1 tyX1_ok nmX1 kf_X1_9 rfl rfl rfl rfl rfl (Nat.le_of_ble_eq_true rfl) dX1_init_9 (fun H locs hw => ?_)
  refine lv_aload_n K.1 K.2.1 dX1_init_12 rfl (lv_at hl 0 rfl) ?_
  refine lv_bipush (v := 20) K.1 K.2.1 dX1_init_13 (by decide) ?_
  refine kArr K hw (ty := .int) rfl ka_int (20, .inl (fun _ => 0)) (fun _ => rfl) (by decide) (by decide) (by decide) ⟨by decide, by decide⟩ dX1_init_15 (fun q15_9 k15_9 H K hw => ?_)
  refine kPutF K hm hw 0 14 (ci := 1) (T := TX1) (N := 15) (ty := .array .int) rfl rfl (by decide) iX1 tyX1_ok nmX1 kf_X1_13 rfl rfl rfl rfl rfl (Nat.le_of_ble_eq_true rfl) dX1_init_17 (fun H locs hw => ?_)
  exact ret ((q7_5, k7_5), (q15_9, k15_9)) hw K.2.2.2.2.1 dX1_init_20
abbrev rm_X6_init : Room := { frames := 1, cells := 1, slots := 6000, locals := 20 }
set_option maxHeartbeats 4000000 in
set_option maxRecDepth 100000 in
theorem c_X6_init (l : Launch) (D : va_G) (h0 : Nat) : CN l yX6_init cX6_init 1 rm_X6_init D [.ref h0] [(h0, .inr (6, [.null, .int 0, .int 0, .int 0]))] (fun u : Nat × ClassId => [(u.2, .long)]) (fun u : Nat × ClassId => [(h0, .inr (6, [.ref u.1, .int 0, .int 0, .int 0])), (u.1, .inl (u.2, 6000, .inr (.inl (fun _ => 0))))]) 1 6000 := by
  refine en_n (by decide +kernel) rfl (Nat.le_of_ble_eq_true rfl) ?_
  intro p e s m args below meth c A ls Q K hm hN hw hl ret
  have hl : lv_has ls 1 [(0, .ref h0)] := hl
  refine lv_aload_n K.1 K.2.1 dX6_init_0 rfl (lv_at hl 0 rfl) ?_
  refine kObj K km_X6_1 hl.1 dX6_init_1 ⟨by decide, Nat.le_of_ble_eq_true rfl⟩ ?_
  refine lv_aload_n K.1 K.2.1 dX6_init_4 rfl (lv_at hl 0 rfl) ?_
  refine lv_sipush (v := 6000) K.1 K.2.1 dX6_init_5 (by decide) ?_
  refine kArr K hw (ty := .long) rfl ka_long (6000, .inr (.inl (fun _ => 0))) (fun _ => rfl) (by decide) (by decide) (by decide) ⟨by decide, by decide⟩ dX6_init_8 (fun q8_5 k8_5 H K hw => ?_)
  refine kPutF K hm hw 0 0 (ci := 6) (T := TX6) (N := 4) (ty := .array .long) rfl rfl (by decide) iX6 tyX6_ok nmX6 kf_X6_9 rfl rfl rfl rfl rfl (Nat.le_of_ble_eq_true rfl) dX6_init_10 (fun H locs hw => ?_)
  exact ret ((q8_5, k8_5)) hw K.2.2.2.2.1 dX6_init_13
abbrev rm_X0_init : Room := { frames := 1, cells := 1, slots := 160, locals := 20 }
set_option maxHeartbeats 4000000 in
set_option maxRecDepth 100000 in
theorem c_X0_init (l : Launch) (D : va_G) (h0 : Nat) : CN l yX0_init cX0_init 1 rm_X0_init D [.ref h0] [(h0, .inr (0, [.null, .int 0]))] (fun u : Nat × ClassId => [(u.2, .int)]) (fun u : Nat × ClassId => [(h0, .inr (0, [.ref u.1, .int 0])), (u.1, .inl (u.2, 160, .inl (fun _ => 0)))]) 1 160 := by
  refine en_n (by decide +kernel) rfl (Nat.le_of_ble_eq_true rfl) ?_
  intro p e s m args below meth c A ls Q K hm hN hw hl ret
  have hl : lv_has ls 1 [(0, .ref h0)] := hl
  refine lv_aload_n K.1 K.2.1 dX0_init_0 rfl (lv_at hl 0 rfl) ?_
  refine kObj K km_X0_1 hl.1 dX0_init_1 ⟨by decide, Nat.le_of_ble_eq_true rfl⟩ ?_
  refine lv_aload_n K.1 K.2.1 dX0_init_4 rfl (lv_at hl 0 rfl) ?_
  refine lv_sipush (v := 160) K.1 K.2.1 dX0_init_5 (by decide) ?_
  refine kArr K hw (ty := .int) rfl ka_int (160, .inl (fun _ => 0)) (fun _ => rfl) (by decide) (by decide) (by decide) ⟨by decide, by decide⟩ dX0_init_8 (fun q8_5 k8_5 H K hw => ?_)
  refine kPutF K hm hw 0 0 (ci := 0) (T := TX0) (N := 2) (ty := .array .int) rfl rfl (by decide) iX0 tyX0_ok nmX0 kf_X0_9 rfl rfl rfl rfl rfl (Nat.le_of_ble_eq_true rfl) dX0_init_10 (fun H locs hw => ?_)
  exact ret ((q8_5, k8_5)) hw K.2.2.2.2.1 dX0_init_13
abbrev rm_X3_init : Room := { frames := 2, cells := 18, slots := 4224, locals := 40 }
set_option maxHeartbeats 4000000 in
set_option maxRecDepth 100000 in
theorem c_X3_init (l : Launch) (D : va_G) (h0 : Nat) : CN l yX3_init cX3_init 2 rm_X3_init D [.ref h0] [(h0, .inr (3, [.null, .null, .int 0, .int 0, .int 0, .int 0, .int 0]))] (fun u : (Nat × ClassId) × (Nat × ClassId) × (Nat → Nat) => [(u.1.2, .object "PageDesk$Other"), (u.2.1.2, .byte)]) (fun u : (Nat × ClassId) × (Nat × ClassId) × (Nat → Nat) => [(h0, .inr (3, [.ref u.1.1, .ref u.2.1.1, .int 0, .int 0, .int 0, .int 0, .int 0])), (u.1.1, .inl (u.1.2, 16, .inr (.inr (.inr (.inr (fun j => some (u.2.2 j))))))), (u.2.1.1, .inl (u.2.1.2, 4096, .inl (fun _ => 0)))] ++ (List.range 16).map (fun j => (u.2.2 j, .inr (2, [.int 0, .int 0, .int 0, .int 0, .int 0, .int 0, .int 0])))) 18 4224 := by
  refine en_n (by decide +kernel) rfl (Nat.le_of_ble_eq_true rfl) ?_
  intro p e s m args below meth c A ls Q K hm hN hw hl ret
  have hl : lv_has ls 2 [(0, .ref h0)] := hl
  refine lv_aload_n K.1 K.2.1 dX3_init_0 rfl (lv_at hl 0 rfl) ?_
  refine kObj K km_X3_1 hl.1 dX3_init_1 ⟨by decide, Nat.le_of_ble_eq_true rfl⟩ ?_
  refine lv_aload_n K.1 K.2.1 dX3_init_4 rfl (lv_at hl 0 rfl) ?_
  refine lv_bipush (v := 16) K.1 K.2.1 dX3_init_5 (by decide) ?_
  refine kArq K hw (N' := 16) kk_X3_9 hN.2.2.2.2.2.2.2 (by decide) (by decide) (by decide) ⟨by decide, by decide⟩ dX3_init_7 (fun q7_5 k7_5 H K hw => ?_)
  refine kPutF K hm hw 0 0 (ci := 3) (T := TX3) (N := 7) (ty := .array (.object "PageDesk$Other")) rfl rfl (by decide) iX3 tyX3_ok nmX3 kf_X3_11 rfl rfl rfl rfl rfl (Nat.le_of_ble_eq_true rfl) dX3_init_10 (fun H locs hw => ?_)
  have hw : WD D A s.heap [(h0, .inr (3, [.ref q7_5, .null, .int 0, .int 0, .int 0, .int 0, .int 0])), (q7_5, .inl (k7_5, 16, .inr (.inr (.inr (.inr ((fun _ => none)))))))] H locs := hw
  refine lv_aload_n K.1 K.2.1 dX3_init_13 rfl (lv_at hl 0 rfl) ?_
  refine lv_sipush (v := 4096) K.1 K.2.1 dX3_init_14 (by decide) ?_
  refine kArr K hw (ty := .byte) rfl ka_byte (4096, .inl (fun _ => 0)) (fun _ => rfl) (by decide) (by decide) (by decide) ⟨by decide, by decide⟩ dX3_init_17 (fun q17_9 k17_9 H K hw => ?_)
  refine kPutF K hm hw 0 1 (ci := 3) (T := TX3) (N := 7) (ty := .array .byte) rfl rfl (by decide) iX3 tyX3_ok nmX3 kf_X3_15 rfl rfl rfl rfl rfl (Nat.le_of_ble_eq_true rfl) dX3_init_19 (fun H locs hw => ?_)
  have hw : WD D A s.heap [(h0, .inr (3, [.ref q7_5, .ref q17_9, .int 0, .int 0, .int 0, .int 0, .int 0])), (q7_5, .inl (k7_5, 16, .inr (.inr (.inr (.inr ((fun _ => none))))))), (q17_9, .inl (k17_9, 4096, .inl (fun _ => 0)))] H locs := hw
  refine lv_iconst (v := 0) K.1 K.2.1 dX3_init_22 (by decide) ?_
  refine lv_istore_n (lv' := [(1, .int 0), (0, .ref h0)]) K.1 K.2.1 dX3_init_23 rfl hl (by decide) rfl (fun ls hl => ?_)
  refine lv_iload_n K.1 K.2.1 dX3_init_24 rfl (lv_at hl 0 rfl) ?_
  refine lv_bipush (v := 16) K.1 K.2.1 dX3_init_25 (by decide) ?_
  refine lv_icmp_ge (tgt := 49) K.1 K.2.1 dX3_init_27 (by decide) (fun c9 => absurd c9 (by decide)) (fun _ => ?_)
  refine lv_aload_n K.1 K.2.1 dX3_init_30 rfl (lv_at hl 1 rfl) ?_
  refine gG K hw 0 0 (ci := 3) (T := TX3) (N := 7) (v := .ref q7_5) rfl rfl (by decide) iX3 kf_X3_11 rfl dX3_init_31 ?_
  refine lv_iload_n K.1 K.2.1 dX3_init_34 rfl (lv_at hl 0 rfl) ?_
  refine kNew K hw (ci := 2) (T := TX2) (N := 7) iX2 tyX2_ok kk_X3_9 kN_X2 ki_X2 rfl [.int 0, .int 0, .int 0, .int 0, .int 0, .int 0, .int 0] (fun j hj => match j, hj with | 0, _ => rfl | 1, _ => rfl | 2, _ => rfl | 3, _ => rfl | 4, _ => rfl | 5, _ => rfl | 6, _ => rfl) ⟨by decide, by decide⟩ dX3_init_35 (fun q35_19 H hw => ?_)
  refine lv_dup K.1 K.2.1 dX3_init_38 rfl ?_
  refine kIniN K hN hw (c_X2_init l D _) hl.1 hN.2.2.2.2.2.1 kC_X2_init ki_X2 kI_X2_init rfl (by decide +kernel) ⟨rfl, rfl⟩ (by decide) ⟨by decide, by decide⟩ (Nat.le_of_ble_eq_true rfl) dX3_init_39 (fun u39_21 H locs K hw => ?_)
  refine kAst K hw 1 0 3 2 cl_0 rfl rfl rfl rfl (vi_0 (by decide)) dX3_init_42 (fun H locs hw => ?_)
  have hw : WD D A s.heap [(h0, .inr (3, [.ref q7_5, .ref q17_9, .int 0, .int 0, .int 0, .int 0, .int 0])), (q7_5, .inl (k7_5, 16, .inr (.inr (.inr (.inr ((va_up (fun _ => none) 0 (some q35_19)))))))), (q17_9, .inl (k17_9, 4096, .inl (fun _ => 0))), (q35_19, .inr (2, [.int 0, .int 0, .int 0, .int 0, .int 0, .int 0, .int 0]))] H locs := hw
  refine lv_iinc (v := 1) (lv' := [(1, .int 1), (0, .ref h0)]) K.1 K.2.1 dX3_init_43 hl (k := 0) rfl (by decide) (by decide) rfl (fun ls hl => ?_)
  refine lv_goto (tgt := 24) K.1 K.2.1 dX3_init_46 (by decide) ?_
  refine lv_iload_n K.1 K.2.1 dX3_init_24 rfl (lv_at hl 0 rfl) ?_
  refine lv_bipush (v := 16) K.1 K.2.1 dX3_init_25 (by decide) ?_
  refine lv_icmp_ge (tgt := 49) K.1 K.2.1 dX3_init_27 (by decide) (fun c9 => absurd c9 (by decide)) (fun _ => ?_)
  refine lv_aload_n K.1 K.2.1 dX3_init_30 rfl (lv_at hl 1 rfl) ?_
  refine gG K hw 0 0 (ci := 3) (T := TX3) (N := 7) (v := .ref q7_5) rfl rfl (by decide) iX3 kf_X3_11 rfl dX3_init_31 ?_
  refine lv_iload_n K.1 K.2.1 dX3_init_34 rfl (lv_at hl 0 rfl) ?_
  refine kNew K hw (ci := 2) (T := TX2) (N := 7) iX2 tyX2_ok kk_X3_9 kN_X2 ki_X2 rfl [.int 0, .int 0, .int 0, .int 0, .int 0, .int 0, .int 0] (fun j hj => match j, hj with | 0, _ => rfl | 1, _ => rfl | 2, _ => rfl | 3, _ => rfl | 4, _ => rfl | 5, _ => rfl | 6, _ => rfl) ⟨by decide, by decide⟩ dX3_init_35 (fun q35_31 H hw => ?_)
  refine lv_dup K.1 K.2.1 dX3_init_38 rfl ?_
  refine kIniN K hN hw (c_X2_init l D _) hl.1 hN.2.2.2.2.2.1 kC_X2_init ki_X2 kI_X2_init rfl (by decide +kernel) ⟨rfl, rfl⟩ (by decide) ⟨by decide, by decide⟩ (Nat.le_of_ble_eq_true rfl) dX3_init_39 (fun u39_33 H locs K hw => ?_)
  refine kAst K hw 1 0 4 2 cl_1 rfl rfl rfl rfl (vi_1 (by decide)) dX3_init_42 (fun H locs hw => ?_)
  have hw : WD D A s.heap [(h0, .inr (3, [.ref q7_5, .ref q17_9, .int 0, .int 0, .int 0, .int 0, .int 0])), (q7_5, .inl (k7_5, 16, .inr (.inr (.inr (.inr ((va_up (va_up (fun _ => none) 0 (some q35_19)) 1 (some q35_31)))))))), (q17_9, .inl (k17_9, 4096, .inl (fun _ => 0))), (q35_19, .inr (2, [.int 0, .int 0, .int 0, .int 0, .int 0, .int 0, .int 0])), (q35_31, .inr (2, [.int 0, .int 0, .int 0, .int 0, .int 0, .int 0, .int 0]))] H locs := hw
  refine lv_iinc (v := 2) (lv' := [(1, .int 2), (0, .ref h0)]) K.1 K.2.1 dX3_init_43 hl (k := 0) rfl (by decide) (by decide) rfl (fun ls hl => ?_)
  refine lv_goto (tgt := 24) K.1 K.2.1 dX3_init_46 (by decide) ?_
  refine lv_iload_n K.1 K.2.1 dX3_init_24 rfl (lv_at hl 0 rfl) ?_
  refine lv_bipush (v := 16) K.1 K.2.1 dX3_init_25 (by decide) ?_
  refine lv_icmp_ge (tgt := 49) K.1 K.2.1 dX3_init_27 (by decide) (fun c9 => absurd c9 (by decide)) (fun _ => ?_)
  refine lv_aload_n K.1 K.2.1 dX3_init_30 rfl (lv_at hl 1 rfl) ?_
  refine gG K hw 0 0 (ci := 3) (T := TX3) (N := 7) (v := .ref q7_5) rfl rfl (by decide) iX3 kf_X3_11 rfl dX3_init_31 ?_
  refine lv_iload_n K.1 K.2.1 dX3_init_34 rfl (lv_at hl 0 rfl) ?_
  refine kNew K hw (ci := 2) (T := TX2) (N := 7) iX2 tyX2_ok kk_X3_9 kN_X2 ki_X2 rfl [.int 0, .int 0, .int 0, .int 0, .int 0, .int 0, .int 0] (fun j hj => match j, hj with | 0, _ => rfl | 1, _ => rfl | 2, _ => rfl | 3, _ => rfl | 4, _ => rfl | 5, _ => rfl | 6, _ => rfl) ⟨by decide, by decide⟩ dX3_init_35 (fun q35_43 H hw => ?_)
  refine lv_dup K.1 K.2.1 dX3_init_38 rfl ?_
  refine kIniN K hN hw (c_X2_init l D _) hl.1 hN.2.2.2.2.2.1 kC_X2_init ki_X2 kI_X2_init rfl (by decide +kernel) ⟨rfl, rfl⟩ (by decide) ⟨by decide, by decide⟩ (Nat.le_of_ble_eq_true rfl) dX3_init_39 (fun u39_45 H locs K hw => ?_)
  refine kAst K hw 1 0 5 2 cl_2 rfl rfl rfl rfl (vi_2 (by decide)) dX3_init_42 (fun H locs hw => ?_)
  have hw : WD D A s.heap [(h0, .inr (3, [.ref q7_5, .ref q17_9, .int 0, .int 0, .int 0, .int 0, .int 0])), (q7_5, .inl (k7_5, 16, .inr (.inr (.inr (.inr ((va_up (va_up (va_up (fun _ => none) 0 (some q35_19)) 1 (some q35_31)) 2 (some q35_43)))))))), (q17_9, .inl (k17_9, 4096, .inl (fun _ => 0))), (q35_19, .inr (2, [.int 0, .int 0, .int 0, .int 0, .int 0, .int 0, .int 0])), (q35_31, .inr (2, [.int 0, .int 0, .int 0, .int 0, .int 0, .int 0, .int 0])), (q35_43, .inr (2, [.int 0, .int 0, .int 0, .int 0, .int 0, .int 0, .int 0]))] H locs := hw
  refine lv_iinc (v := 3) (lv' := [(1, .int 3), (0, .ref h0)]) K.1 K.2.1 dX3_init_43 hl (k := 0) rfl (by decide) (by decide) rfl (fun ls hl => ?_)
  refine lv_goto (tgt := 24) K.1 K.2.1 dX3_init_46 (by decide) ?_
  refine lv_iload_n K.1 K.2.1 dX3_init_24 rfl (lv_at hl 0 rfl) ?_
  refine lv_bipush (v := 16) K.1 K.2.1 dX3_init_25 (by decide) ?_
  refine lv_icmp_ge (tgt := 49) K.1 K.2.1 dX3_init_27 (by decide) (fun c9 => absurd c9 (by decide)) (fun _ => ?_)
  refine lv_aload_n K.1 K.2.1 dX3_init_30 rfl (lv_at hl 1 rfl) ?_
  refine gG K hw 0 0 (ci := 3) (T := TX3) (N := 7) (v := .ref q7_5) rfl rfl (by decide) iX3 kf_X3_11 rfl dX3_init_31 ?_
  refine lv_iload_n K.1 K.2.1 dX3_init_34 rfl (lv_at hl 0 rfl) ?_
  refine kNew K hw (ci := 2) (T := TX2) (N := 7) iX2 tyX2_ok kk_X3_9 kN_X2 ki_X2 rfl [.int 0, .int 0, .int 0, .int 0, .int 0, .int 0, .int 0] (fun j hj => match j, hj with | 0, _ => rfl | 1, _ => rfl | 2, _ => rfl | 3, _ => rfl | 4, _ => rfl | 5, _ => rfl | 6, _ => rfl) ⟨by decide, by decide⟩ dX3_init_35 (fun q35_55 H hw => ?_)
  refine lv_dup K.1 K.2.1 dX3_init_38 rfl ?_
  refine kIniN K hN hw (c_X2_init l D _) hl.1 hN.2.2.2.2.2.1 kC_X2_init ki_X2 kI_X2_init rfl (by decide +kernel) ⟨rfl, rfl⟩ (by decide) ⟨by decide, by decide⟩ (Nat.le_of_ble_eq_true rfl) dX3_init_39 (fun u39_57 H locs K hw => ?_)
  refine kAst K hw 1 0 6 2 cl_3 rfl rfl rfl rfl (vi_3 (by decide)) dX3_init_42 (fun H locs hw => ?_)
  have hw : WD D A s.heap [(h0, .inr (3, [.ref q7_5, .ref q17_9, .int 0, .int 0, .int 0, .int 0, .int 0])), (q7_5, .inl (k7_5, 16, .inr (.inr (.inr (.inr ((va_up (va_up (va_up (va_up (fun _ => none) 0 (some q35_19)) 1 (some q35_31)) 2 (some q35_43)) 3 (some q35_55)))))))), (q17_9, .inl (k17_9, 4096, .inl (fun _ => 0))), (q35_19, .inr (2, [.int 0, .int 0, .int 0, .int 0, .int 0, .int 0, .int 0])), (q35_31, .inr (2, [.int 0, .int 0, .int 0, .int 0, .int 0, .int 0, .int 0])), (q35_43, .inr (2, [.int 0, .int 0, .int 0, .int 0, .int 0, .int 0, .int 0])), (q35_55, .inr (2, [.int 0, .int 0, .int 0, .int 0, .int 0, .int 0, .int 0]))] H locs := hw
  refine lv_iinc (v := 4) (lv' := [(1, .int 4), (0, .ref h0)]) K.1 K.2.1 dX3_init_43 hl (k := 0) rfl (by decide) (by decide) rfl (fun ls hl => ?_)
  refine lv_goto (tgt := 24) K.1 K.2.1 dX3_init_46 (by decide) ?_
  refine lv_iload_n K.1 K.2.1 dX3_init_24 rfl (lv_at hl 0 rfl) ?_
  refine lv_bipush (v := 16) K.1 K.2.1 dX3_init_25 (by decide) ?_
  refine lv_icmp_ge (tgt := 49) K.1 K.2.1 dX3_init_27 (by decide) (fun c9 => absurd c9 (by decide)) (fun _ => ?_)
  refine lv_aload_n K.1 K.2.1 dX3_init_30 rfl (lv_at hl 1 rfl) ?_
  refine gG K hw 0 0 (ci := 3) (T := TX3) (N := 7) (v := .ref q7_5) rfl rfl (by decide) iX3 kf_X3_11 rfl dX3_init_31 ?_
  refine lv_iload_n K.1 K.2.1 dX3_init_34 rfl (lv_at hl 0 rfl) ?_
  refine kNew K hw (ci := 2) (T := TX2) (N := 7) iX2 tyX2_ok kk_X3_9 kN_X2 ki_X2 rfl [.int 0, .int 0, .int 0, .int 0, .int 0, .int 0, .int 0] (fun j hj => match j, hj with | 0, _ => rfl | 1, _ => rfl | 2, _ => rfl | 3, _ => rfl | 4, _ => rfl | 5, _ => rfl | 6, _ => rfl) ⟨by decide, by decide⟩ dX3_init_35 (fun q35_67 H hw => ?_)
  refine lv_dup K.1 K.2.1 dX3_init_38 rfl ?_
  refine kIniN K hN hw (c_X2_init l D _) hl.1 hN.2.2.2.2.2.1 kC_X2_init ki_X2 kI_X2_init rfl (by decide +kernel) ⟨rfl, rfl⟩ (by decide) ⟨by decide, by decide⟩ (Nat.le_of_ble_eq_true rfl) dX3_init_39 (fun u39_69 H locs K hw => ?_)
  refine kAst K hw 1 0 7 2 cl_4 rfl rfl rfl rfl (vi_4 (by decide)) dX3_init_42 (fun H locs hw => ?_)
  have hw : WD D A s.heap [(h0, .inr (3, [.ref q7_5, .ref q17_9, .int 0, .int 0, .int 0, .int 0, .int 0])), (q7_5, .inl (k7_5, 16, .inr (.inr (.inr (.inr ((va_up (va_up (va_up (va_up (va_up (fun _ => none) 0 (some q35_19)) 1 (some q35_31)) 2 (some q35_43)) 3 (some q35_55)) 4 (some q35_67)))))))), (q17_9, .inl (k17_9, 4096, .inl (fun _ => 0))), (q35_19, .inr (2, [.int 0, .int 0, .int 0, .int 0, .int 0, .int 0, .int 0])), (q35_31, .inr (2, [.int 0, .int 0, .int 0, .int 0, .int 0, .int 0, .int 0])), (q35_43, .inr (2, [.int 0, .int 0, .int 0, .int 0, .int 0, .int 0, .int 0])), (q35_55, .inr (2, [.int 0, .int 0, .int 0, .int 0, .int 0, .int 0, .int 0])), (q35_67, .inr (2, [.int 0, .int 0, .int 0, .int 0, .int 0, .int 0, .int 0]))] H locs := hw
  refine lv_iinc (v := 5) (lv' := [(1, .int 5), (0, .ref h0)]) K.1 K.2.1 dX3_init_43 hl (k := 0) rfl (by decide) (by decide) rfl (fun ls hl => ?_)
  refine lv_goto (tgt := 24) K.1 K.2.1 dX3_init_46 (by decide) ?_
  refine lv_iload_n K.1 K.2.1 dX3_init_24 rfl (lv_at hl 0 rfl) ?_
  refine lv_bipush (v := 16) K.1 K.2.1 dX3_init_25 (by decide) ?_
  refine lv_icmp_ge (tgt := 49) K.1 K.2.1 dX3_init_27 (by decide) (fun c9 => absurd c9 (by decide)) (fun _ => ?_)
  refine lv_aload_n K.1 K.2.1 dX3_init_30 rfl (lv_at hl 1 rfl) ?_
  refine gG K hw 0 0 (ci := 3) (T := TX3) (N := 7) (v := .ref q7_5) rfl rfl (by decide) iX3 kf_X3_11 rfl dX3_init_31 ?_
  refine lv_iload_n K.1 K.2.1 dX3_init_34 rfl (lv_at hl 0 rfl) ?_
  refine kNew K hw (ci := 2) (T := TX2) (N := 7) iX2 tyX2_ok kk_X3_9 kN_X2 ki_X2 rfl [.int 0, .int 0, .int 0, .int 0, .int 0, .int 0, .int 0] (fun j hj => match j, hj with | 0, _ => rfl | 1, _ => rfl | 2, _ => rfl | 3, _ => rfl | 4, _ => rfl | 5, _ => rfl | 6, _ => rfl) ⟨by decide, by decide⟩ dX3_init_35 (fun q35_79 H hw => ?_)
  refine lv_dup K.1 K.2.1 dX3_init_38 rfl ?_
  refine kIniN K hN hw (c_X2_init l D _) hl.1 hN.2.2.2.2.2.1 kC_X2_init ki_X2 kI_X2_init rfl (by decide +kernel) ⟨rfl, rfl⟩ (by decide) ⟨by decide, by decide⟩ (Nat.le_of_ble_eq_true rfl) dX3_init_39 (fun u39_81 H locs K hw => ?_)
  refine kAst K hw 1 0 8 2 cl_5 rfl rfl rfl rfl (vi_5 (by decide)) dX3_init_42 (fun H locs hw => ?_)
  have hw : WD D A s.heap [(h0, .inr (3, [.ref q7_5, .ref q17_9, .int 0, .int 0, .int 0, .int 0, .int 0])), (q7_5, .inl (k7_5, 16, .inr (.inr (.inr (.inr ((va_up (va_up (va_up (va_up (va_up (va_up (fun _ => none) 0 (some q35_19)) 1 (some q35_31)) 2 (some q35_43)) 3 (some q35_55)) 4 (some q35_67)) 5 (some q35_79)))))))), (q17_9, .inl (k17_9, 4096, .inl (fun _ => 0))), (q35_19, .inr (2, [.int 0, .int 0, .int 0, .int 0, .int 0, .int 0, .int 0])), (q35_31, .inr (2, [.int 0, .int 0, .int 0, .int 0, .int 0, .int 0, .int 0])), (q35_43, .inr (2, [.int 0, .int 0, .int 0, .int 0, .int 0, .int 0, .int 0])), (q35_55, .inr (2, [.int 0, .int 0, .int 0, .int 0, .int 0, .int 0, .int 0])), (q35_67, .inr (2, [.int 0, .int 0, .int 0, .int 0, .int 0, .int 0, .int 0])), (q35_79, .inr (2, [.int 0, .int 0, .int 0, .int 0, .int 0, .int 0, .int 0]))] H locs := hw
  refine lv_iinc (v := 6) (lv' := [(1, .int 6), (0, .ref h0)]) K.1 K.2.1 dX3_init_43 hl (k := 0) rfl (by decide) (by decide) rfl (fun ls hl => ?_)
  refine lv_goto (tgt := 24) K.1 K.2.1 dX3_init_46 (by decide) ?_
  refine lv_iload_n K.1 K.2.1 dX3_init_24 rfl (lv_at hl 0 rfl) ?_
  refine lv_bipush (v := 16) K.1 K.2.1 dX3_init_25 (by decide) ?_
  refine lv_icmp_ge (tgt := 49) K.1 K.2.1 dX3_init_27 (by decide) (fun c9 => absurd c9 (by decide)) (fun _ => ?_)
  refine lv_aload_n K.1 K.2.1 dX3_init_30 rfl (lv_at hl 1 rfl) ?_
  refine gG K hw 0 0 (ci := 3) (T := TX3) (N := 7) (v := .ref q7_5) rfl rfl (by decide) iX3 kf_X3_11 rfl dX3_init_31 ?_
  refine lv_iload_n K.1 K.2.1 dX3_init_34 rfl (lv_at hl 0 rfl) ?_
  refine kNew K hw (ci := 2) (T := TX2) (N := 7) iX2 tyX2_ok kk_X3_9 kN_X2 ki_X2 rfl [.int 0, .int 0, .int 0, .int 0, .int 0, .int 0, .int 0] (fun j hj => match j, hj with | 0, _ => rfl | 1, _ => rfl | 2, _ => rfl | 3, _ => rfl | 4, _ => rfl | 5, _ => rfl | 6, _ => rfl) ⟨by decide, by decide⟩ dX3_init_35 (fun q35_91 H hw => ?_)
  refine lv_dup K.1 K.2.1 dX3_init_38 rfl ?_
  refine kIniN K hN hw (c_X2_init l D _) hl.1 hN.2.2.2.2.2.1 kC_X2_init ki_X2 kI_X2_init rfl (by decide +kernel) ⟨rfl, rfl⟩ (by decide) ⟨by decide, by decide⟩ (Nat.le_of_ble_eq_true rfl) dX3_init_39 (fun u39_93 H locs K hw => ?_)
  refine kAst K hw 1 0 9 2 cl_6 rfl rfl rfl rfl (vi_6 (by decide)) dX3_init_42 (fun H locs hw => ?_)
  have hw : WD D A s.heap [(h0, .inr (3, [.ref q7_5, .ref q17_9, .int 0, .int 0, .int 0, .int 0, .int 0])), (q7_5, .inl (k7_5, 16, .inr (.inr (.inr (.inr ((va_up (va_up (va_up (va_up (va_up (va_up (va_up (fun _ => none) 0 (some q35_19)) 1 (some q35_31)) 2 (some q35_43)) 3 (some q35_55)) 4 (some q35_67)) 5 (some q35_79)) 6 (some q35_91)))))))), (q17_9, .inl (k17_9, 4096, .inl (fun _ => 0))), (q35_19, .inr (2, [.int 0, .int 0, .int 0, .int 0, .int 0, .int 0, .int 0])), (q35_31, .inr (2, [.int 0, .int 0, .int 0, .int 0, .int 0, .int 0, .int 0])), (q35_43, .inr (2, [.int 0, .int 0, .int 0, .int 0, .int 0, .int 0, .int 0])), (q35_55, .inr (2, [.int 0, .int 0, .int 0, .int 0, .int 0, .int 0, .int 0])), (q35_67, .inr (2, [.int 0, .int 0, .int 0, .int 0, .int 0, .int 0, .int 0])), (q35_79, .inr (2, [.int 0, .int 0, .int 0, .int 0, .int 0, .int 0, .int 0])), (q35_91, .inr (2, [.int 0, .int 0, .int 0, .int 0, .int 0, .int 0, .int 0]))] H locs := hw
  refine lv_iinc (v := 7) (lv' := [(1, .int 7), (0, .ref h0)]) K.1 K.2.1 dX3_init_43 hl (k := 0) rfl (by decide) (by decide) rfl (fun ls hl => ?_)
  refine lv_goto (tgt := 24) K.1 K.2.1 dX3_init_46 (by decide) ?_
  refine lv_iload_n K.1 K.2.1 dX3_init_24 rfl (lv_at hl 0 rfl) ?_
  refine lv_bipush (v := 16) K.1 K.2.1 dX3_init_25 (by decide) ?_
  refine lv_icmp_ge (tgt := 49) K.1 K.2.1 dX3_init_27 (by decide) (fun c9 => absurd c9 (by decide)) (fun _ => ?_)
  refine lv_aload_n K.1 K.2.1 dX3_init_30 rfl (lv_at hl 1 rfl) ?_
  refine gG K hw 0 0 (ci := 3) (T := TX3) (N := 7) (v := .ref q7_5) rfl rfl (by decide) iX3 kf_X3_11 rfl dX3_init_31 ?_
  refine lv_iload_n K.1 K.2.1 dX3_init_34 rfl (lv_at hl 0 rfl) ?_
  refine kNew K hw (ci := 2) (T := TX2) (N := 7) iX2 tyX2_ok kk_X3_9 kN_X2 ki_X2 rfl [.int 0, .int 0, .int 0, .int 0, .int 0, .int 0, .int 0] (fun j hj => match j, hj with | 0, _ => rfl | 1, _ => rfl | 2, _ => rfl | 3, _ => rfl | 4, _ => rfl | 5, _ => rfl | 6, _ => rfl) ⟨by decide, by decide⟩ dX3_init_35 (fun q35_103 H hw => ?_)
  refine lv_dup K.1 K.2.1 dX3_init_38 rfl ?_
  refine kIniN K hN hw (c_X2_init l D _) hl.1 hN.2.2.2.2.2.1 kC_X2_init ki_X2 kI_X2_init rfl (by decide +kernel) ⟨rfl, rfl⟩ (by decide) ⟨by decide, by decide⟩ (Nat.le_of_ble_eq_true rfl) dX3_init_39 (fun u39_105 H locs K hw => ?_)
  refine kAst K hw 1 0 10 2 cl_7 rfl rfl rfl rfl (vi_7 (by decide)) dX3_init_42 (fun H locs hw => ?_)
  have hw : WD D A s.heap [(h0, .inr (3, [.ref q7_5, .ref q17_9, .int 0, .int 0, .int 0, .int 0, .int 0])), (q7_5, .inl (k7_5, 16, .inr (.inr (.inr (.inr ((va_up (va_up (va_up (va_up (va_up (va_up (va_up (va_up (fun _ => none) 0 (some q35_19)) 1 (some q35_31)) 2 (some q35_43)) 3 (some q35_55)) 4 (some q35_67)) 5 (some q35_79)) 6 (some q35_91)) 7 (some q35_103)))))))), (q17_9, .inl (k17_9, 4096, .inl (fun _ => 0))), (q35_19, .inr (2, [.int 0, .int 0, .int 0, .int 0, .int 0, .int 0, .int 0])), (q35_31, .inr (2, [.int 0, .int 0, .int 0, .int 0, .int 0, .int 0, .int 0])), (q35_43, .inr (2, [.int 0, .int 0, .int 0, .int 0, .int 0, .int 0, .int 0])), (q35_55, .inr (2, [.int 0, .int 0, .int 0, .int 0, .int 0, .int 0, .int 0])), (q35_67, .inr (2, [.int 0, .int 0, .int 0, .int 0, .int 0, .int 0, .int 0])), (q35_79, .inr (2, [.int 0, .int 0, .int 0, .int 0, .int 0, .int 0, .int 0])), (q35_91, .inr (2, [.int 0, .int 0, .int 0, .int 0, .int 0, .int 0, .int 0])), (q35_103, .inr (2, [.int 0, .int 0, .int 0, .int 0, .int 0, .int 0, .int 0]))] H locs := hw
  refine lv_iinc (v := 8) (lv' := [(1, .int 8), (0, .ref h0)]) K.1 K.2.1 dX3_init_43 hl (k := 0) rfl (by decide) (by decide) rfl (fun ls hl => ?_)
  refine lv_goto (tgt := 24) K.1 K.2.1 dX3_init_46 (by decide) ?_
  refine lv_iload_n K.1 K.2.1 dX3_init_24 rfl (lv_at hl 0 rfl) ?_
  refine lv_bipush (v := 16) K.1 K.2.1 dX3_init_25 (by decide) ?_
  refine lv_icmp_ge (tgt := 49) K.1 K.2.1 dX3_init_27 (by decide) (fun c9 => absurd c9 (by decide)) (fun _ => ?_)
  refine lv_aload_n K.1 K.2.1 dX3_init_30 rfl (lv_at hl 1 rfl) ?_
  refine gG K hw 0 0 (ci := 3) (T := TX3) (N := 7) (v := .ref q7_5) rfl rfl (by decide) iX3 kf_X3_11 rfl dX3_init_31 ?_
  refine lv_iload_n K.1 K.2.1 dX3_init_34 rfl (lv_at hl 0 rfl) ?_
  refine kNew K hw (ci := 2) (T := TX2) (N := 7) iX2 tyX2_ok kk_X3_9 kN_X2 ki_X2 rfl [.int 0, .int 0, .int 0, .int 0, .int 0, .int 0, .int 0] (fun j hj => match j, hj with | 0, _ => rfl | 1, _ => rfl | 2, _ => rfl | 3, _ => rfl | 4, _ => rfl | 5, _ => rfl | 6, _ => rfl) ⟨by decide, by decide⟩ dX3_init_35 (fun q35_115 H hw => ?_)
  refine lv_dup K.1 K.2.1 dX3_init_38 rfl ?_
  refine kIniN K hN hw (c_X2_init l D _) hl.1 hN.2.2.2.2.2.1 kC_X2_init ki_X2 kI_X2_init rfl (by decide +kernel) ⟨rfl, rfl⟩ (by decide) ⟨by decide, by decide⟩ (Nat.le_of_ble_eq_true rfl) dX3_init_39 (fun u39_117 H locs K hw => ?_)
  refine kAst K hw 1 0 11 2 cl_8 rfl rfl rfl rfl (vi_8 (by decide)) dX3_init_42 (fun H locs hw => ?_)
  have hw : WD D A s.heap [(h0, .inr (3, [.ref q7_5, .ref q17_9, .int 0, .int 0, .int 0, .int 0, .int 0])), (q7_5, .inl (k7_5, 16, .inr (.inr (.inr (.inr ((va_up (va_up (va_up (va_up (va_up (va_up (va_up (va_up (va_up (fun _ => none) 0 (some q35_19)) 1 (some q35_31)) 2 (some q35_43)) 3 (some q35_55)) 4 (some q35_67)) 5 (some q35_79)) 6 (some q35_91)) 7 (some q35_103)) 8 (some q35_115)))))))), (q17_9, .inl (k17_9, 4096, .inl (fun _ => 0))), (q35_19, .inr (2, [.int 0, .int 0, .int 0, .int 0, .int 0, .int 0, .int 0])), (q35_31, .inr (2, [.int 0, .int 0, .int 0, .int 0, .int 0, .int 0, .int 0])), (q35_43, .inr (2, [.int 0, .int 0, .int 0, .int 0, .int 0, .int 0, .int 0])), (q35_55, .inr (2, [.int 0, .int 0, .int 0, .int 0, .int 0, .int 0, .int 0])), (q35_67, .inr (2, [.int 0, .int 0, .int 0, .int 0, .int 0, .int 0, .int 0])), (q35_79, .inr (2, [.int 0, .int 0, .int 0, .int 0, .int 0, .int 0, .int 0])), (q35_91, .inr (2, [.int 0, .int 0, .int 0, .int 0, .int 0, .int 0, .int 0])), (q35_103, .inr (2, [.int 0, .int 0, .int 0, .int 0, .int 0, .int 0, .int 0])), (q35_115, .inr (2, [.int 0, .int 0, .int 0, .int 0, .int 0, .int 0, .int 0]))] H locs := hw
  refine lv_iinc (v := 9) (lv' := [(1, .int 9), (0, .ref h0)]) K.1 K.2.1 dX3_init_43 hl (k := 0) rfl (by decide) (by decide) rfl (fun ls hl => ?_)
  refine lv_goto (tgt := 24) K.1 K.2.1 dX3_init_46 (by decide) ?_
  refine lv_iload_n K.1 K.2.1 dX3_init_24 rfl (lv_at hl 0 rfl) ?_
  refine lv_bipush (v := 16) K.1 K.2.1 dX3_init_25 (by decide) ?_
  refine lv_icmp_ge (tgt := 49) K.1 K.2.1 dX3_init_27 (by decide) (fun c9 => absurd c9 (by decide)) (fun _ => ?_)
  refine lv_aload_n K.1 K.2.1 dX3_init_30 rfl (lv_at hl 1 rfl) ?_
  refine gG K hw 0 0 (ci := 3) (T := TX3) (N := 7) (v := .ref q7_5) rfl rfl (by decide) iX3 kf_X3_11 rfl dX3_init_31 ?_
  refine lv_iload_n K.1 K.2.1 dX3_init_34 rfl (lv_at hl 0 rfl) ?_
  refine kNew K hw (ci := 2) (T := TX2) (N := 7) iX2 tyX2_ok kk_X3_9 kN_X2 ki_X2 rfl [.int 0, .int 0, .int 0, .int 0, .int 0, .int 0, .int 0] (fun j hj => match j, hj with | 0, _ => rfl | 1, _ => rfl | 2, _ => rfl | 3, _ => rfl | 4, _ => rfl | 5, _ => rfl | 6, _ => rfl) ⟨by decide, by decide⟩ dX3_init_35 (fun q35_127 H hw => ?_)
  refine lv_dup K.1 K.2.1 dX3_init_38 rfl ?_
  refine kIniN K hN hw (c_X2_init l D _) hl.1 hN.2.2.2.2.2.1 kC_X2_init ki_X2 kI_X2_init rfl (by decide +kernel) ⟨rfl, rfl⟩ (by decide) ⟨by decide, by decide⟩ (Nat.le_of_ble_eq_true rfl) dX3_init_39 (fun u39_129 H locs K hw => ?_)
  refine kAst K hw 1 0 12 2 cl_9 rfl rfl rfl rfl (vi_9 (by decide)) dX3_init_42 (fun H locs hw => ?_)
  have hw : WD D A s.heap [(h0, .inr (3, [.ref q7_5, .ref q17_9, .int 0, .int 0, .int 0, .int 0, .int 0])), (q7_5, .inl (k7_5, 16, .inr (.inr (.inr (.inr ((va_up (va_up (va_up (va_up (va_up (va_up (va_up (va_up (va_up (va_up (fun _ => none) 0 (some q35_19)) 1 (some q35_31)) 2 (some q35_43)) 3 (some q35_55)) 4 (some q35_67)) 5 (some q35_79)) 6 (some q35_91)) 7 (some q35_103)) 8 (some q35_115)) 9 (some q35_127)))))))), (q17_9, .inl (k17_9, 4096, .inl (fun _ => 0))), (q35_19, .inr (2, [.int 0, .int 0, .int 0, .int 0, .int 0, .int 0, .int 0])), (q35_31, .inr (2, [.int 0, .int 0, .int 0, .int 0, .int 0, .int 0, .int 0])), (q35_43, .inr (2, [.int 0, .int 0, .int 0, .int 0, .int 0, .int 0, .int 0])), (q35_55, .inr (2, [.int 0, .int 0, .int 0, .int 0, .int 0, .int 0, .int 0])), (q35_67, .inr (2, [.int 0, .int 0, .int 0, .int 0, .int 0, .int 0, .int 0])), (q35_79, .inr (2, [.int 0, .int 0, .int 0, .int 0, .int 0, .int 0, .int 0])), (q35_91, .inr (2, [.int 0, .int 0, .int 0, .int 0, .int 0, .int 0, .int 0])), (q35_103, .inr (2, [.int 0, .int 0, .int 0, .int 0, .int 0, .int 0, .int 0])), (q35_115, .inr (2, [.int 0, .int 0, .int 0, .int 0, .int 0, .int 0, .int 0])), (q35_127, .inr (2, [.int 0, .int 0, .int 0, .int 0, .int 0, .int 0, .int 0]))] H locs := hw
  refine lv_iinc (v := 10) (lv' := [(1, .int 10), (0, .ref h0)]) K.1 K.2.1 dX3_init_43 hl (k := 0) rfl (by decide) (by decide) rfl (fun ls hl => ?_)
  refine lv_goto (tgt := 24) K.1 K.2.1 dX3_init_46 (by decide) ?_
  refine lv_iload_n K.1 K.2.1 dX3_init_24 rfl (lv_at hl 0 rfl) ?_
  refine lv_bipush (v := 16) K.1 K.2.1 dX3_init_25 (by decide) ?_
  refine lv_icmp_ge (tgt := 49) K.1 K.2.1 dX3_init_27 (by decide) (fun c9 => absurd c9 (by decide)) (fun _ => ?_)
  refine lv_aload_n K.1 K.2.1 dX3_init_30 rfl (lv_at hl 1 rfl) ?_
  refine gG K hw 0 0 (ci := 3) (T := TX3) (N := 7) (v := .ref q7_5) rfl rfl (by decide) iX3 kf_X3_11 rfl dX3_init_31 ?_
  refine lv_iload_n K.1 K.2.1 dX3_init_34 rfl (lv_at hl 0 rfl) ?_
  refine kNew K hw (ci := 2) (T := TX2) (N := 7) iX2 tyX2_ok kk_X3_9 kN_X2 ki_X2 rfl [.int 0, .int 0, .int 0, .int 0, .int 0, .int 0, .int 0] (fun j hj => match j, hj with | 0, _ => rfl | 1, _ => rfl | 2, _ => rfl | 3, _ => rfl | 4, _ => rfl | 5, _ => rfl | 6, _ => rfl) ⟨by decide, by decide⟩ dX3_init_35 (fun q35_139 H hw => ?_)
  refine lv_dup K.1 K.2.1 dX3_init_38 rfl ?_
  refine kIniN K hN hw (c_X2_init l D _) hl.1 hN.2.2.2.2.2.1 kC_X2_init ki_X2 kI_X2_init rfl (by decide +kernel) ⟨rfl, rfl⟩ (by decide) ⟨by decide, by decide⟩ (Nat.le_of_ble_eq_true rfl) dX3_init_39 (fun u39_141 H locs K hw => ?_)
  refine kAst K hw 1 0 13 2 cl_10 rfl rfl rfl rfl (vi_10 (by decide)) dX3_init_42 (fun H locs hw => ?_)
  have hw : WD D A s.heap [(h0, .inr (3, [.ref q7_5, .ref q17_9, .int 0, .int 0, .int 0, .int 0, .int 0])), (q7_5, .inl (k7_5, 16, .inr (.inr (.inr (.inr ((va_up (va_up (va_up (va_up (va_up (va_up (va_up (va_up (va_up (va_up (va_up (fun _ => none) 0 (some q35_19)) 1 (some q35_31)) 2 (some q35_43)) 3 (some q35_55)) 4 (some q35_67)) 5 (some q35_79)) 6 (some q35_91)) 7 (some q35_103)) 8 (some q35_115)) 9 (some q35_127)) 10 (some q35_139)))))))), (q17_9, .inl (k17_9, 4096, .inl (fun _ => 0))), (q35_19, .inr (2, [.int 0, .int 0, .int 0, .int 0, .int 0, .int 0, .int 0])), (q35_31, .inr (2, [.int 0, .int 0, .int 0, .int 0, .int 0, .int 0, .int 0])), (q35_43, .inr (2, [.int 0, .int 0, .int 0, .int 0, .int 0, .int 0, .int 0])), (q35_55, .inr (2, [.int 0, .int 0, .int 0, .int 0, .int 0, .int 0, .int 0])), (q35_67, .inr (2, [.int 0, .int 0, .int 0, .int 0, .int 0, .int 0, .int 0])), (q35_79, .inr (2, [.int 0, .int 0, .int 0, .int 0, .int 0, .int 0, .int 0])), (q35_91, .inr (2, [.int 0, .int 0, .int 0, .int 0, .int 0, .int 0, .int 0])), (q35_103, .inr (2, [.int 0, .int 0, .int 0, .int 0, .int 0, .int 0, .int 0])), (q35_115, .inr (2, [.int 0, .int 0, .int 0, .int 0, .int 0, .int 0, .int 0])), (q35_127, .inr (2, [.int 0, .int 0, .int 0, .int 0, .int 0, .int 0, .int 0])), (q35_139, .inr (2, [.int 0, .int 0, .int 0, .int 0, .int 0, .int 0, .int 0]))] H locs := hw
  refine lv_iinc (v := 11) (lv' := [(1, .int 11), (0, .ref h0)]) K.1 K.2.1 dX3_init_43 hl (k := 0) rfl (by decide) (by decide) rfl (fun ls hl => ?_)
  refine lv_goto (tgt := 24) K.1 K.2.1 dX3_init_46 (by decide) ?_
  refine lv_iload_n K.1 K.2.1 dX3_init_24 rfl (lv_at hl 0 rfl) ?_
  refine lv_bipush (v := 16) K.1 K.2.1 dX3_init_25 (by decide) ?_
  refine lv_icmp_ge (tgt := 49) K.1 K.2.1 dX3_init_27 (by decide) (fun c9 => absurd c9 (by decide)) (fun _ => ?_)
  refine lv_aload_n K.1 K.2.1 dX3_init_30 rfl (lv_at hl 1 rfl) ?_
  refine gG K hw 0 0 (ci := 3) (T := TX3) (N := 7) (v := .ref q7_5) rfl rfl (by decide) iX3 kf_X3_11 rfl dX3_init_31 ?_
  refine lv_iload_n K.1 K.2.1 dX3_init_34 rfl (lv_at hl 0 rfl) ?_
  refine kNew K hw (ci := 2) (T := TX2) (N := 7) iX2 tyX2_ok kk_X3_9 kN_X2 ki_X2 rfl [.int 0, .int 0, .int 0, .int 0, .int 0, .int 0, .int 0] (fun j hj => match j, hj with | 0, _ => rfl | 1, _ => rfl | 2, _ => rfl | 3, _ => rfl | 4, _ => rfl | 5, _ => rfl | 6, _ => rfl) ⟨by decide, by decide⟩ dX3_init_35 (fun q35_151 H hw => ?_)
  refine lv_dup K.1 K.2.1 dX3_init_38 rfl ?_
  refine kIniN K hN hw (c_X2_init l D _) hl.1 hN.2.2.2.2.2.1 kC_X2_init ki_X2 kI_X2_init rfl (by decide +kernel) ⟨rfl, rfl⟩ (by decide) ⟨by decide, by decide⟩ (Nat.le_of_ble_eq_true rfl) dX3_init_39 (fun u39_153 H locs K hw => ?_)
  refine kAst K hw 1 0 14 2 cl_11 rfl rfl rfl rfl (vi_11 (by decide)) dX3_init_42 (fun H locs hw => ?_)
  have hw : WD D A s.heap [(h0, .inr (3, [.ref q7_5, .ref q17_9, .int 0, .int 0, .int 0, .int 0, .int 0])), (q7_5, .inl (k7_5, 16, .inr (.inr (.inr (.inr ((va_up (va_up (va_up (va_up (va_up (va_up (va_up (va_up (va_up (va_up (va_up (va_up (fun _ => none) 0 (some q35_19)) 1 (some q35_31)) 2 (some q35_43)) 3 (some q35_55)) 4 (some q35_67)) 5 (some q35_79)) 6 (some q35_91)) 7 (some q35_103)) 8 (some q35_115)) 9 (some q35_127)) 10 (some q35_139)) 11 (some q35_151)))))))), (q17_9, .inl (k17_9, 4096, .inl (fun _ => 0))), (q35_19, .inr (2, [.int 0, .int 0, .int 0, .int 0, .int 0, .int 0, .int 0])), (q35_31, .inr (2, [.int 0, .int 0, .int 0, .int 0, .int 0, .int 0, .int 0])), (q35_43, .inr (2, [.int 0, .int 0, .int 0, .int 0, .int 0, .int 0, .int 0])), (q35_55, .inr (2, [.int 0, .int 0, .int 0, .int 0, .int 0, .int 0, .int 0])), (q35_67, .inr (2, [.int 0, .int 0, .int 0, .int 0, .int 0, .int 0, .int 0])), (q35_79, .inr (2, [.int 0, .int 0, .int 0, .int 0, .int 0, .int 0, .int 0])), (q35_91, .inr (2, [.int 0, .int 0, .int 0, .int 0, .int 0, .int 0, .int 0])), (q35_103, .inr (2, [.int 0, .int 0, .int 0, .int 0, .int 0, .int 0, .int 0])), (q35_115, .inr (2, [.int 0, .int 0, .int 0, .int 0, .int 0, .int 0, .int 0])), (q35_127, .inr (2, [.int 0, .int 0, .int 0, .int 0, .int 0, .int 0, .int 0])), (q35_139, .inr (2, [.int 0, .int 0, .int 0, .int 0, .int 0, .int 0, .int 0])), (q35_151, .inr (2, [.int 0, .int 0, .int 0, .int 0, .int 0, .int 0, .int 0]))] H locs := hw
  refine lv_iinc (v := 12) (lv' := [(1, .int 12), (0, .ref h0)]) K.1 K.2.1 dX3_init_43 hl (k := 0) rfl (by decide) (by decide) rfl (fun ls hl => ?_)
  refine lv_goto (tgt := 24) K.1 K.2.1 dX3_init_46 (by decide) ?_
  refine lv_iload_n K.1 K.2.1 dX3_init_24 rfl (lv_at hl 0 rfl) ?_
  refine lv_bipush (v := 16) K.1 K.2.1 dX3_init_25 (by decide) ?_
  refine lv_icmp_ge (tgt := 49) K.1 K.2.1 dX3_init_27 (by decide) (fun c9 => absurd c9 (by decide)) (fun _ => ?_)
  refine lv_aload_n K.1 K.2.1 dX3_init_30 rfl (lv_at hl 1 rfl) ?_
  refine gG K hw 0 0 (ci := 3) (T := TX3) (N := 7) (v := .ref q7_5) rfl rfl (by decide) iX3 kf_X3_11 rfl dX3_init_31 ?_
  refine lv_iload_n K.1 K.2.1 dX3_init_34 rfl (lv_at hl 0 rfl) ?_
  refine kNew K hw (ci := 2) (T := TX2) (N := 7) iX2 tyX2_ok kk_X3_9 kN_X2 ki_X2 rfl [.int 0, .int 0, .int 0, .int 0, .int 0, .int 0, .int 0] (fun j hj => match j, hj with | 0, _ => rfl | 1, _ => rfl | 2, _ => rfl | 3, _ => rfl | 4, _ => rfl | 5, _ => rfl | 6, _ => rfl) ⟨by decide, by decide⟩ dX3_init_35 (fun q35_163 H hw => ?_)
  refine lv_dup K.1 K.2.1 dX3_init_38 rfl ?_
  refine kIniN K hN hw (c_X2_init l D _) hl.1 hN.2.2.2.2.2.1 kC_X2_init ki_X2 kI_X2_init rfl (by decide +kernel) ⟨rfl, rfl⟩ (by decide) ⟨by decide, by decide⟩ (Nat.le_of_ble_eq_true rfl) dX3_init_39 (fun u39_165 H locs K hw => ?_)
  refine kAst K hw 1 0 15 2 cl_12 rfl rfl rfl rfl (vi_12 (by decide)) dX3_init_42 (fun H locs hw => ?_)
  have hw : WD D A s.heap [(h0, .inr (3, [.ref q7_5, .ref q17_9, .int 0, .int 0, .int 0, .int 0, .int 0])), (q7_5, .inl (k7_5, 16, .inr (.inr (.inr (.inr ((va_up (va_up (va_up (va_up (va_up (va_up (va_up (va_up (va_up (va_up (va_up (va_up (va_up (fun _ => none) 0 (some q35_19)) 1 (some q35_31)) 2 (some q35_43)) 3 (some q35_55)) 4 (some q35_67)) 5 (some q35_79)) 6 (some q35_91)) 7 (some q35_103)) 8 (some q35_115)) 9 (some q35_127)) 10 (some q35_139)) 11 (some q35_151)) 12 (some q35_163)))))))), (q17_9, .inl (k17_9, 4096, .inl (fun _ => 0))), (q35_19, .inr (2, [.int 0, .int 0, .int 0, .int 0, .int 0, .int 0, .int 0])), (q35_31, .inr (2, [.int 0, .int 0, .int 0, .int 0, .int 0, .int 0, .int 0])), (q35_43, .inr (2, [.int 0, .int 0, .int 0, .int 0, .int 0, .int 0, .int 0])), (q35_55, .inr (2, [.int 0, .int 0, .int 0, .int 0, .int 0, .int 0, .int 0])), (q35_67, .inr (2, [.int 0, .int 0, .int 0, .int 0, .int 0, .int 0, .int 0])), (q35_79, .inr (2, [.int 0, .int 0, .int 0, .int 0, .int 0, .int 0, .int 0])), (q35_91, .inr (2, [.int 0, .int 0, .int 0, .int 0, .int 0, .int 0, .int 0])), (q35_103, .inr (2, [.int 0, .int 0, .int 0, .int 0, .int 0, .int 0, .int 0])), (q35_115, .inr (2, [.int 0, .int 0, .int 0, .int 0, .int 0, .int 0, .int 0])), (q35_127, .inr (2, [.int 0, .int 0, .int 0, .int 0, .int 0, .int 0, .int 0])), (q35_139, .inr (2, [.int 0, .int 0, .int 0, .int 0, .int 0, .int 0, .int 0])), (q35_151, .inr (2, [.int 0, .int 0, .int 0, .int 0, .int 0, .int 0, .int 0])), (q35_163, .inr (2, [.int 0, .int 0, .int 0, .int 0, .int 0, .int 0, .int 0]))] H locs := hw
  refine lv_iinc (v := 13) (lv' := [(1, .int 13), (0, .ref h0)]) K.1 K.2.1 dX3_init_43 hl (k := 0) rfl (by decide) (by decide) rfl (fun ls hl => ?_)
  refine lv_goto (tgt := 24) K.1 K.2.1 dX3_init_46 (by decide) ?_
  refine lv_iload_n K.1 K.2.1 dX3_init_24 rfl (lv_at hl 0 rfl) ?_
  refine lv_bipush (v := 16) K.1 K.2.1 dX3_init_25 (by decide) ?_
  refine lv_icmp_ge (tgt := 49) K.1 K.2.1 dX3_init_27 (by decide) (fun c9 => absurd c9 (by decide)) (fun _ => ?_)
  refine lv_aload_n K.1 K.2.1 dX3_init_30 rfl (lv_at hl 1 rfl) ?_
  refine gG K hw 0 0 (ci := 3) (T := TX3) (N := 7) (v := .ref q7_5) rfl rfl (by decide) iX3 kf_X3_11 rfl dX3_init_31 ?_
  refine lv_iload_n K.1 K.2.1 dX3_init_34 rfl (lv_at hl 0 rfl) ?_
  refine kNew K hw (ci := 2) (T := TX2) (N := 7) iX2 tyX2_ok kk_X3_9 kN_X2 ki_X2 rfl [.int 0, .int 0, .int 0, .int 0, .int 0, .int 0, .int 0] (fun j hj => match j, hj with | 0, _ => rfl | 1, _ => rfl | 2, _ => rfl | 3, _ => rfl | 4, _ => rfl | 5, _ => rfl | 6, _ => rfl) ⟨by decide, by decide⟩ dX3_init_35 (fun q35_175 H hw => ?_)
  refine lv_dup K.1 K.2.1 dX3_init_38 rfl ?_
  refine kIniN K hN hw (c_X2_init l D _) hl.1 hN.2.2.2.2.2.1 kC_X2_init ki_X2 kI_X2_init rfl (by decide +kernel) ⟨rfl, rfl⟩ (by decide) ⟨by decide, by decide⟩ (Nat.le_of_ble_eq_true rfl) dX3_init_39 (fun u39_177 H locs K hw => ?_)
  refine kAst K hw 1 0 16 2 cl_13 rfl rfl rfl rfl (vi_13 (by decide)) dX3_init_42 (fun H locs hw => ?_)
  have hw : WD D A s.heap [(h0, .inr (3, [.ref q7_5, .ref q17_9, .int 0, .int 0, .int 0, .int 0, .int 0])), (q7_5, .inl (k7_5, 16, .inr (.inr (.inr (.inr ((va_up (va_up (va_up (va_up (va_up (va_up (va_up (va_up (va_up (va_up (va_up (va_up (va_up (va_up (fun _ => none) 0 (some q35_19)) 1 (some q35_31)) 2 (some q35_43)) 3 (some q35_55)) 4 (some q35_67)) 5 (some q35_79)) 6 (some q35_91)) 7 (some q35_103)) 8 (some q35_115)) 9 (some q35_127)) 10 (some q35_139)) 11 (some q35_151)) 12 (some q35_163)) 13 (some q35_175)))))))), (q17_9, .inl (k17_9, 4096, .inl (fun _ => 0))), (q35_19, .inr (2, [.int 0, .int 0, .int 0, .int 0, .int 0, .int 0, .int 0])), (q35_31, .inr (2, [.int 0, .int 0, .int 0, .int 0, .int 0, .int 0, .int 0])), (q35_43, .inr (2, [.int 0, .int 0, .int 0, .int 0, .int 0, .int 0, .int 0])), (q35_55, .inr (2, [.int 0, .int 0, .int 0, .int 0, .int 0, .int 0, .int 0])), (q35_67, .inr (2, [.int 0, .int 0, .int 0, .int 0, .int 0, .int 0, .int 0])), (q35_79, .inr (2, [.int 0, .int 0, .int 0, .int 0, .int 0, .int 0, .int 0])), (q35_91, .inr (2, [.int 0, .int 0, .int 0, .int 0, .int 0, .int 0, .int 0])), (q35_103, .inr (2, [.int 0, .int 0, .int 0, .int 0, .int 0, .int 0, .int 0])), (q35_115, .inr (2, [.int 0, .int 0, .int 0, .int 0, .int 0, .int 0, .int 0])), (q35_127, .inr (2, [.int 0, .int 0, .int 0, .int 0, .int 0, .int 0, .int 0])), (q35_139, .inr (2, [.int 0, .int 0, .int 0, .int 0, .int 0, .int 0, .int 0])), (q35_151, .inr (2, [.int 0, .int 0, .int 0, .int 0, .int 0, .int 0, .int 0])), (q35_163, .inr (2, [.int 0, .int 0, .int 0, .int 0, .int 0, .int 0, .int 0])), (q35_175, .inr (2, [.int 0, .int 0, .int 0, .int 0, .int 0, .int 0, .int 0]))] H locs := hw
  refine lv_iinc (v := 14) (lv' := [(1, .int 14), (0, .ref h0)]) K.1 K.2.1 dX3_init_43 hl (k := 0) rfl (by decide) (by decide) rfl (fun ls hl => ?_)
  refine lv_goto (tgt := 24) K.1 K.2.1 dX3_init_46 (by decide) ?_
  refine lv_iload_n K.1 K.2.1 dX3_init_24 rfl (lv_at hl 0 rfl) ?_
  refine lv_bipush (v := 16) K.1 K.2.1 dX3_init_25 (by decide) ?_
  refine lv_icmp_ge (tgt := 49) K.1 K.2.1 dX3_init_27 (by decide) (fun c9 => absurd c9 (by decide)) (fun _ => ?_)
  refine lv_aload_n K.1 K.2.1 dX3_init_30 rfl (lv_at hl 1 rfl) ?_
  refine gG K hw 0 0 (ci := 3) (T := TX3) (N := 7) (v := .ref q7_5) rfl rfl (by decide) iX3 kf_X3_11 rfl dX3_init_31 ?_
  refine lv_iload_n K.1 K.2.1 dX3_init_34 rfl (lv_at hl 0 rfl) ?_
  refine kNew K hw (ci := 2) (T := TX2) (N := 7) iX2 tyX2_ok kk_X3_9 kN_X2 ki_X2 rfl [.int 0, .int 0, .int 0, .int 0, .int 0, .int 0, .int 0] (fun j hj => match j, hj with | 0, _ => rfl | 1, _ => rfl | 2, _ => rfl | 3, _ => rfl | 4, _ => rfl | 5, _ => rfl | 6, _ => rfl) ⟨by decide, by decide⟩ dX3_init_35 (fun q35_187 H hw => ?_)
  refine lv_dup K.1 K.2.1 dX3_init_38 rfl ?_
  refine kIniN K hN hw (c_X2_init l D _) hl.1 hN.2.2.2.2.2.1 kC_X2_init ki_X2 kI_X2_init rfl (by decide +kernel) ⟨rfl, rfl⟩ (by decide) ⟨by decide, by decide⟩ (Nat.le_of_ble_eq_true rfl) dX3_init_39 (fun u39_189 H locs K hw => ?_)
  refine kAst K hw 1 0 17 2 cl_14 rfl rfl rfl rfl (vi_14 (by decide)) dX3_init_42 (fun H locs hw => ?_)
  have hw : WD D A s.heap [(h0, .inr (3, [.ref q7_5, .ref q17_9, .int 0, .int 0, .int 0, .int 0, .int 0])), (q7_5, .inl (k7_5, 16, .inr (.inr (.inr (.inr ((va_up (va_up (va_up (va_up (va_up (va_up (va_up (va_up (va_up (va_up (va_up (va_up (va_up (va_up (va_up (fun _ => none) 0 (some q35_19)) 1 (some q35_31)) 2 (some q35_43)) 3 (some q35_55)) 4 (some q35_67)) 5 (some q35_79)) 6 (some q35_91)) 7 (some q35_103)) 8 (some q35_115)) 9 (some q35_127)) 10 (some q35_139)) 11 (some q35_151)) 12 (some q35_163)) 13 (some q35_175)) 14 (some q35_187)))))))), (q17_9, .inl (k17_9, 4096, .inl (fun _ => 0))), (q35_19, .inr (2, [.int 0, .int 0, .int 0, .int 0, .int 0, .int 0, .int 0])), (q35_31, .inr (2, [.int 0, .int 0, .int 0, .int 0, .int 0, .int 0, .int 0])), (q35_43, .inr (2, [.int 0, .int 0, .int 0, .int 0, .int 0, .int 0, .int 0])), (q35_55, .inr (2, [.int 0, .int 0, .int 0, .int 0, .int 0, .int 0, .int 0])), (q35_67, .inr (2, [.int 0, .int 0, .int 0, .int 0, .int 0, .int 0, .int 0])), (q35_79, .inr (2, [.int 0, .int 0, .int 0, .int 0, .int 0, .int 0, .int 0])), (q35_91, .inr (2, [.int 0, .int 0, .int 0, .int 0, .int 0, .int 0, .int 0])), (q35_103, .inr (2, [.int 0, .int 0, .int 0, .int 0, .int 0, .int 0, .int 0])), (q35_115, .inr (2, [.int 0, .int 0, .int 0, .int 0, .int 0, .int 0, .int 0])), (q35_127, .inr (2, [.int 0, .int 0, .int 0, .int 0, .int 0, .int 0, .int 0])), (q35_139, .inr (2, [.int 0, .int 0, .int 0, .int 0, .int 0, .int 0, .int 0])), (q35_151, .inr (2, [.int 0, .int 0, .int 0, .int 0, .int 0, .int 0, .int 0])), (q35_163, .inr (2, [.int 0, .int 0, .int 0, .int 0, .int 0, .int 0, .int 0])), (q35_175, .inr (2, [.int 0, .int 0, .int 0, .int 0, .int 0, .int 0, .int 0])), (q35_187, .inr (2, [.int 0, .int 0, .int 0, .int 0, .int 0, .int 0, .int 0]))] H locs := hw
  refine lv_iinc (v := 15) (lv' := [(1, .int 15), (0, .ref h0)]) K.1 K.2.1 dX3_init_43 hl (k := 0) rfl (by decide) (by decide) rfl (fun ls hl => ?_)
  refine lv_goto (tgt := 24) K.1 K.2.1 dX3_init_46 (by decide) ?_
  refine lv_iload_n K.1 K.2.1 dX3_init_24 rfl (lv_at hl 0 rfl) ?_
  refine lv_bipush (v := 16) K.1 K.2.1 dX3_init_25 (by decide) ?_
  refine lv_icmp_ge (tgt := 49) K.1 K.2.1 dX3_init_27 (by decide) (fun c9 => absurd c9 (by decide)) (fun _ => ?_)
  refine lv_aload_n K.1 K.2.1 dX3_init_30 rfl (lv_at hl 1 rfl) ?_
  refine gG K hw 0 0 (ci := 3) (T := TX3) (N := 7) (v := .ref q7_5) rfl rfl (by decide) iX3 kf_X3_11 rfl dX3_init_31 ?_
  refine lv_iload_n K.1 K.2.1 dX3_init_34 rfl (lv_at hl 0 rfl) ?_
  refine kNew K hw (ci := 2) (T := TX2) (N := 7) iX2 tyX2_ok kk_X3_9 kN_X2 ki_X2 rfl [.int 0, .int 0, .int 0, .int 0, .int 0, .int 0, .int 0] (fun j hj => match j, hj with | 0, _ => rfl | 1, _ => rfl | 2, _ => rfl | 3, _ => rfl | 4, _ => rfl | 5, _ => rfl | 6, _ => rfl) ⟨by decide, by decide⟩ dX3_init_35 (fun q35_199 H hw => ?_)
  refine lv_dup K.1 K.2.1 dX3_init_38 rfl ?_
  refine kIniN K hN hw (c_X2_init l D _) hl.1 hN.2.2.2.2.2.1 kC_X2_init ki_X2 kI_X2_init rfl (by decide +kernel) ⟨rfl, rfl⟩ (by decide) ⟨by decide, by decide⟩ (Nat.le_of_ble_eq_true rfl) dX3_init_39 (fun u39_201 H locs K hw => ?_)
  refine kAst K hw 1 0 18 2 cl_15 rfl rfl rfl rfl (vi_15 (by decide)) dX3_init_42 (fun H locs hw => ?_)
  have hw : WD D A s.heap [(h0, .inr (3, [.ref q7_5, .ref q17_9, .int 0, .int 0, .int 0, .int 0, .int 0])), (q7_5, .inl (k7_5, 16, .inr (.inr (.inr (.inr ((va_up (va_up (va_up (va_up (va_up (va_up (va_up (va_up (va_up (va_up (va_up (va_up (va_up (va_up (va_up (va_up (fun _ => none) 0 (some q35_19)) 1 (some q35_31)) 2 (some q35_43)) 3 (some q35_55)) 4 (some q35_67)) 5 (some q35_79)) 6 (some q35_91)) 7 (some q35_103)) 8 (some q35_115)) 9 (some q35_127)) 10 (some q35_139)) 11 (some q35_151)) 12 (some q35_163)) 13 (some q35_175)) 14 (some q35_187)) 15 (some q35_199)))))))), (q17_9, .inl (k17_9, 4096, .inl (fun _ => 0))), (q35_19, .inr (2, [.int 0, .int 0, .int 0, .int 0, .int 0, .int 0, .int 0])), (q35_31, .inr (2, [.int 0, .int 0, .int 0, .int 0, .int 0, .int 0, .int 0])), (q35_43, .inr (2, [.int 0, .int 0, .int 0, .int 0, .int 0, .int 0, .int 0])), (q35_55, .inr (2, [.int 0, .int 0, .int 0, .int 0, .int 0, .int 0, .int 0])), (q35_67, .inr (2, [.int 0, .int 0, .int 0, .int 0, .int 0, .int 0, .int 0])), (q35_79, .inr (2, [.int 0, .int 0, .int 0, .int 0, .int 0, .int 0, .int 0])), (q35_91, .inr (2, [.int 0, .int 0, .int 0, .int 0, .int 0, .int 0, .int 0])), (q35_103, .inr (2, [.int 0, .int 0, .int 0, .int 0, .int 0, .int 0, .int 0])), (q35_115, .inr (2, [.int 0, .int 0, .int 0, .int 0, .int 0, .int 0, .int 0])), (q35_127, .inr (2, [.int 0, .int 0, .int 0, .int 0, .int 0, .int 0, .int 0])), (q35_139, .inr (2, [.int 0, .int 0, .int 0, .int 0, .int 0, .int 0, .int 0])), (q35_151, .inr (2, [.int 0, .int 0, .int 0, .int 0, .int 0, .int 0, .int 0])), (q35_163, .inr (2, [.int 0, .int 0, .int 0, .int 0, .int 0, .int 0, .int 0])), (q35_175, .inr (2, [.int 0, .int 0, .int 0, .int 0, .int 0, .int 0, .int 0])), (q35_187, .inr (2, [.int 0, .int 0, .int 0, .int 0, .int 0, .int 0, .int 0])), (q35_199, .inr (2, [.int 0, .int 0, .int 0, .int 0, .int 0, .int 0, .int 0]))] H locs := hw
  refine lv_iinc (v := 16) (lv' := [(1, .int 16), (0, .ref h0)]) K.1 K.2.1 dX3_init_43 hl (k := 0) rfl (by decide) (by decide) rfl (fun ls hl => ?_)
  refine lv_goto (tgt := 24) K.1 K.2.1 dX3_init_46 (by decide) ?_
  refine lv_iload_n K.1 K.2.1 dX3_init_24 rfl (lv_at hl 0 rfl) ?_
  refine lv_bipush (v := 16) K.1 K.2.1 dX3_init_25 (by decide) ?_
  refine lv_icmp_ge (tgt := 49) K.1 K.2.1 dX3_init_27 (by decide) (fun _ => ?_) (fun c9 => absurd c9 (by decide))
  have hw := hw.cg 1 (y := (16, .inr (.inr (.inr (.inr (fun j => some ([q35_19, q35_31, q35_43, q35_55, q35_67, q35_79, q35_91, q35_103, q35_115, q35_127, q35_139, q35_151, q35_163, q35_175, q35_187, q35_199].getD j 0))))))) rfl (cellq_cg (fun j hj => match j, hj with | 0, _ => rfl | 1, _ => rfl | 2, _ => rfl | 3, _ => rfl | 4, _ => rfl | 5, _ => rfl | 6, _ => rfl | 7, _ => rfl | 8, _ => rfl | 9, _ => rfl | 10, _ => rfl | 11, _ => rfl | 12, _ => rfl | 13, _ => rfl | 14, _ => rfl | 15, _ => rfl | n + 16, h => absurd h (by omega)))
  exact ret ((q7_5, k7_5), (q17_9, k17_9), fun j => [q35_19, q35_31, q35_43, q35_55, q35_67, q35_79, q35_91, q35_103, q35_115, q35_127, q35_139, q35_151, q35_163, q35_175, q35_187, q35_199].getD j 0) hw K.2.2.2.2.1 dX3_init_49
