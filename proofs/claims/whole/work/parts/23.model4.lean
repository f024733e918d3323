def f_X8_advance (σ0 : PS) (x1 : Int32) (x2 : Int32) (x3 : Int32) : PS × Int32 := (if x1 < 0 then ((upS σ0 0 0), 0) else (if 1 < x1 then ((upS σ0 0 0), 0) else (if x2 < 0 then ((upS σ0 0 0), 0) else (if 255 < x2 then ((upS σ0 0 0), 0) else (if x3 < (-1) then ((upS σ0 0 0), 0) else (if x3 ≤ 20000 then ((upA (upS σ0 0 0) 3 (Int32.toNatClampNeg ((256 * x1) + x2)) x3), 1) else ((upS σ0 0 0), 0)))))))
theorem bm_X8_advance {σ0 : PS} {x1 : Int32} {x2 : Int32} {x3 : Int32} (hI : Bm σ0) : Bm (f_X8_advance σ0 x1 x2 x3).1 := (bxI2 (fun c6 => (bmS_0 hI)) (fun c6 => (bxI2 (fun c11 => (bmS_0 hI)) (fun c11 => (bxI2 (fun c15 => (bmS_0 hI)) (fun c15 => (bxI2 (fun c22 => (bmS_0 hI)) (fun c22 => (bxI2 (fun c27 => (bmS_0 hI)) (fun c27 => (bxI2 (fun c34 => (bmA (by decide) (bmS_0 hI))) (fun c34 => (bmS_0 hI)))))))))))))
theorem pm_X8_advance {n : Int} {σ0 : PS} {x1 : Int32} {x2 : Int32} {x3 : Int32} (hP : Pm n σ0) : Pm (n) (f_X8_advance σ0 x1 x2 x3).1 := (bxI2 (fun c6 => hP) (fun c6 => (bxI2 (fun c11 => hP) (fun c11 => (bxI2 (fun c15 => hP) (fun c15 => (bxI2 (fun c22 => hP) (fun c22 => (bxI2 (fun c27 => hP) (fun c27 => (bxI2 (fun c34 => hP) (fun c34 => hP))))))))))))
abbrev rm_X8_advance : Room := { frames := 0, cells := 0, slots := 0, locals := 0 }
theorem nz_X8_advance {σ0 : PS} {x1 : Int32} {x2 : Int32} {x3 : Int32} : NZ (f_X8_advance σ0 x1 x2 x3).2 := (nzI2 nz0 (nzI2 nz0 (nzI2 nz0 (nzI2 nz0 (nzI2 nz0 (nzI2 nz1 nz0))))))
set_option maxHeartbeats 4000000 in
set_option maxRecDepth 100000 in
theorem c_X8_advance (l : Launch) (D : va_G) (a : Nat → Nat) (cA : Nat → ClassId) (σ0 : PS) (x1 : Int32) (x2 : Int32) (x3 : Int32) : CI l yX8_advance cX8_advance 4 .boolean rm_X8_advance D (mdT cA) [.ref (a 0), .int x1, .int x2, .int x3] (mdW a cA σ0) (mdW a cA (f_X8_advance σ0 x1 x2 x3).1) (f_X8_advance σ0 x1 x2 x3).2 := by
  refine en_i (by decide +kernel) (Nat.le_of_ble_eq_true rfl) nz_X8_advance ?_
  intro p e s m args below meth c A ls Q K hw hl ret
  have hl : lv_has ls 4 [(0, .ref (a 0)), (1, .int x1), (2, .int x2), (3, .int x3)] := hl
  refine lv_aload_n K.1 K.2.1 dX8_advance_0 rfl (lv_at hl 0 rfl) ?_
  refine lv_iconst (v := 0) K.1 K.2.1 dX8_advance_1 (by decide) ?_
  refine pM_0_0 K hw kf_X8_39 dX8_advance_2 (fun H locs hw => ?_)
  refine lv_iload_n K.1 K.2.1 dX8_advance_5 rfl (lv_at hl 1 rfl) ?_
  refine lv_if_lt (tgt := 37) K.1 K.2.1 dX8_advance_6 (by decide) (fun c6 => ?_) (fun c6 => ?_)
  · refine lv_iconst (v := 0) K.1 K.2.1 dX8_advance_37 (by decide) ?_
    have eq9 : f_X8_advance σ0 x1 x2 x3 = ((upS σ0 0 0), 0) := (by exact (Eq.trans (if_pos c6) rfl))
    exact ret (congrArg (fun z => mdW a cA z.1) eq9) (congrArg (fun z => z.2) eq9) hw dX8_advance_38
  · refine lv_iload_n K.1 K.2.1 dX8_advance_9 rfl (lv_at hl 1 rfl) ?_
    refine lv_iconst (v := 1) K.1 K.2.1 dX8_advance_10 (by decide) ?_
    refine lv_icmp_gt (tgt := 37) K.1 K.2.1 dX8_advance_11 (by decide) (fun c11 => ?_) (fun c11 => ?_)
    · refine lv_iconst (v := 0) K.1 K.2.1 dX8_advance_37 (by decide) ?_
      have eq9 : f_X8_advance σ0 x1 x2 x3 = ((upS σ0 0 0), 0) := (by exact (Eq.trans (if_neg c6) (Eq.trans (if_pos c11) rfl)))
      exact ret (congrArg (fun z => mdW a cA z.1) eq9) (congrArg (fun z => z.2) eq9) hw dX8_advance_38
    · refine lv_iload_n K.1 K.2.1 dX8_advance_14 rfl (lv_at hl 2 rfl) ?_
      refine lv_if_lt (tgt := 37) K.1 K.2.1 dX8_advance_15 (by decide) (fun c15 => ?_) (fun c15 => ?_)
      · refine lv_iconst (v := 0) K.1 K.2.1 dX8_advance_37 (by decide) ?_
        have eq9 : f_X8_advance σ0 x1 x2 x3 = ((upS σ0 0 0), 0) := (by exact (Eq.trans (if_neg c6) (Eq.trans (if_neg c11) (Eq.trans (if_pos c15) rfl))))
        exact ret (congrArg (fun z => mdW a cA z.1) eq9) (congrArg (fun z => z.2) eq9) hw dX8_advance_38
      · refine lv_iload_n K.1 K.2.1 dX8_advance_18 rfl (lv_at hl 2 rfl) ?_
        refine lv_sipush (v := 255) K.1 K.2.1 dX8_advance_19 (by decide) ?_
        refine lv_icmp_gt (tgt := 37) K.1 K.2.1 dX8_advance_22 (by decide) (fun c22 => ?_) (fun c22 => ?_)
        · refine lv_iconst (v := 0) K.1 K.2.1 dX8_advance_37 (by decide) ?_
          have eq9 : f_X8_advance σ0 x1 x2 x3 = ((upS σ0 0 0), 0) := (by exact (Eq.trans (if_neg c6) (Eq.trans (if_neg c11) (Eq.trans (if_neg c15) (Eq.trans (if_pos c22) rfl)))))
          exact ret (congrArg (fun z => mdW a cA z.1) eq9) (congrArg (fun z => z.2) eq9) hw dX8_advance_38
        · refine lv_iload_n K.1 K.2.1 dX8_advance_25 rfl (lv_at hl 3 rfl) ?_
          refine lv_iconst (v := (-1)) K.1 K.2.1 dX8_advance_26 (by decide) ?_
          refine lv_icmp_lt (tgt := 37) K.1 K.2.1 dX8_advance_27 (by decide) (fun c27 => ?_) (fun c27 => ?_)
          · refine lv_iconst (v := 0) K.1 K.2.1 dX8_advance_37 (by decide) ?_
            have eq9 : f_X8_advance σ0 x1 x2 x3 = ((upS σ0 0 0), 0) := (by exact (Eq.trans (if_neg c6) (Eq.trans (if_neg c11) (Eq.trans (if_neg c15) (Eq.trans (if_neg c22) (Eq.trans (if_pos c27) rfl))))))
            exact ret (congrArg (fun z => mdW a cA z.1) eq9) (congrArg (fun z => z.2) eq9) hw dX8_advance_38
          · refine lv_iload_n K.1 K.2.1 dX8_advance_30 rfl (lv_at hl 3 rfl) ?_
            refine lv_sipush (v := 20000) K.1 K.2.1 dX8_advance_31 (by decide) ?_
            refine lv_icmp_le (tgt := 39) K.1 K.2.1 dX8_advance_34 (by decide) (fun c34 => ?_) (fun c34 => ?_)
            · refine lv_aload_n K.1 K.2.1 dX8_advance_39 rfl (lv_at hl 0 rfl) ?_
              refine gM_0_9 K hw kf_X8_20 dX8_advance_40 ?_
              refine lv_sipush (v := 256) K.1 K.2.1 dX8_advance_43 (by decide) ?_
              refine lv_iload_n K.1 K.2.1 dX8_advance_46 rfl (lv_at hl 1 rfl) ?_
              refine lv_imul K.1 K.2.1 dX8_advance_47 ?_
              refine lv_iload_n K.1 K.2.1 dX8_advance_48 rfl (lv_at hl 2 rfl) ?_
              refine lv_iadd K.1 K.2.1 dX8_advance_49 ?_
              refine lv_iload_n K.1 K.2.1 dX8_advance_50 rfl (lv_at hl 3 rfl) ?_
              refine sM_4 K hw (vStep (rg1 c6 c11 rfl) (rg1 c15 c22 rfl)) rfl dX8_advance_51 (fun H locs hw => ?_)
              refine lv_iconst (v := 1) K.1 K.2.1 dX8_advance_52 (by decide) ?_
              have eq9 : f_X8_advance σ0 x1 x2 x3 = ((upA (upS σ0 0 0) 3 (Int32.toNatClampNeg ((256 * x1) + x2)) x3), 1) := (by exact (Eq.trans (if_neg c6) (Eq.trans (if_neg c11) (Eq.trans (if_neg c15) (Eq.trans (if_neg c22) (Eq.trans (if_neg c27) (Eq.trans (if_pos c34) rfl)))))))
              exact ret (congrArg (fun z => mdW a cA z.1) eq9) (congrArg (fun z => z.2) eq9) hw dX8_advance_53
            · refine lv_iconst (v := 0) K.1 K.2.1 dX8_advance_37 (by decide) ?_
              have eq9 : f_X8_advance σ0 x1 x2 x3 = ((upS σ0 0 0), 0) := (by exact (Eq.trans (if_neg c6) (Eq.trans (if_neg c11) (Eq.trans (if_neg c15) (Eq.trans (if_neg c22) (Eq.trans (if_neg c27) (Eq.trans (if_neg c34) rfl)))))))
              exact ret (congrArg (fun z => mdW a cA z.1) eq9) (congrArg (fun z => z.2) eq9) hw dX8_advance_38
def f_X8_move (σ0 : PS) (x1 : Int32) (x2 : Int32) : PS := let s8 : PS := f_X8_setX (upS σ0 0 0) (Int32.toInt64 x1); let s14 : PS := f_X8_setY s8 (Int32.toInt64 x2); s14
theorem bm_X8_move {σ0 : PS} {x1 : Int32} {x2 : Int32} (hI : Bm σ0) : Bm (f_X8_move σ0 x1 x2) := (bm_X8_setY (bm_X8_setX (bmS_0 hI)))
theorem pm_X8_move {n : Int} {σ0 : PS} {x1 : Int32} {x2 : Int32} (hP : Pm n σ0) : Pm (n) (f_X8_move σ0 x1 x2) := (pm_X8_setY (pm_X8_setX hP))
abbrev rm_X8_move : Room := { frames := 2, cells := 0, slots := 0, locals := 44 }
set_option maxHeartbeats 4000000 in
set_option maxRecDepth 100000 in
theorem c_X8_move (l : Launch) (D : va_G) (a : Nat → Nat) (cA : Nat → ClassId) (σ0 : PS) (x1 : Int32) (x2 : Int32) : CV l yX8_move cX8_move 3 rm_X8_move D (mdT cA) [.ref (a 0), .int x1, .int x2] (mdW a cA σ0) (mdW a cA (f_X8_move σ0 x1 x2)) := by
  refine en_v (by decide +kernel) (Nat.le_of_ble_eq_true rfl) ?_
  intro p e s m args below meth c A ls Q K hw hl ret
  have hl : lv_has ls 3 [(0, .ref (a 0)), (1, .int x1), (2, .int x2)] := hl
  refine lv_aload_n K.1 K.2.1 dX8_move_0 rfl (lv_at hl 0 rfl) ?_
  refine lv_iconst (v := 0) K.1 K.2.1 dX8_move_1 (by decide) ?_
  refine pM_0_0 K hw kf_X8_39 dX8_move_2 (fun H locs hw => ?_)
  refine lv_aload_n K.1 K.2.1 dX8_move_5 rfl (lv_at hl 0 rfl) ?_
  refine lv_iload_n K.1 K.2.1 dX8_move_6 rfl (lv_at hl 1 rfl) ?_
  refine lv_i2l K.1 K.2.1 dX8_move_7 rfl ?_
  refine caV K hw (c_X8_setX l D a cA _ _) hl.1 (tt_V km_X8_77 kI_X8_setX ks_X8_setX ki_X8 kC_X8_setX) 0 (ci := 8) rfl rfl rfl (na := 1) rfl (by decide +kernel) ⟨rfl, rfl⟩ (by decide) ⟨Nat.zero_le _, Nat.zero_le _⟩ rfl (Nat.le_of_ble_eq_true rfl) dX8_move_8 (fun H locs hw => ?_)
  obtain ⟨s8, es8, hw⟩ := nmM hw
  refine lv_aload_n K.1 K.2.1 dX8_move_11 rfl (lv_at hl 0 rfl) ?_
  refine lv_iload_n K.1 K.2.1 dX8_move_12 rfl (lv_at hl 2 rfl) ?_
  refine lv_i2l K.1 K.2.1 dX8_move_13 rfl ?_
  refine caV K hw (c_X8_setY l D a cA _ _) hl.1 (tt_V km_X8_85 kI_X8_setY ks_X8_setY ki_X8 kC_X8_setY) 0 (ci := 8) rfl rfl rfl (na := 1) rfl (by decide +kernel) ⟨rfl, rfl⟩ (by decide) ⟨Nat.zero_le _, Nat.zero_le _⟩ rfl (Nat.le_of_ble_eq_true rfl) dX8_move_14 (fun H locs hw => ?_)
  obtain ⟨s14, es14, hw⟩ := nmM hw
  exact ret (congrArg (mdW a cA) (by subst es14 es8; exact rfl)) hw dX8_move_17
def f_X8_due (σ0 : PS) : PS := (upS (upS σ0 0 0) 25 1)
theorem bm_X8_due {σ0 : PS} (hI : Bm σ0) : Bm (f_X8_due σ0) := (bmQ_25 (bmS_0 hI) (by decide) (by decide))
theorem pm_X8_due {n : Int} {σ0 : PS} (hP : Pm n σ0) : Pm (n) (f_X8_due σ0) := hP
abbrev rm_X8_due : Room := { frames := 0, cells := 0, slots := 0, locals := 0 }
set_option maxHeartbeats 4000000 in
set_option maxRecDepth 100000 in
theorem c_X8_due (l : Launch) (D : va_G) (a : Nat → Nat) (cA : Nat → ClassId) (σ0 : PS) : CV l yX8_due cX8_due 1 rm_X8_due D (mdT cA) [.ref (a 0)] (mdW a cA σ0) (mdW a cA (f_X8_due σ0)) := by
  refine en_v (by decide +kernel) (Nat.le_of_ble_eq_true rfl) ?_
  intro p e s m args below meth c A ls Q K hw hl ret
  have hl : lv_has ls 1 [(0, .ref (a 0))] := hl
  refine lv_aload_n K.1 K.2.1 dX8_due_0 rfl (lv_at hl 0 rfl) ?_
  refine lv_iconst (v := 0) K.1 K.2.1 dX8_due_1 (by decide) ?_
  refine pM_0_0 K hw kf_X8_39 dX8_due_2 (fun H locs hw => ?_)
  refine lv_aload_n K.1 K.2.1 dX8_due_5 rfl (lv_at hl 0 rfl) ?_
  refine lv_iconst (v := 1) K.1 K.2.1 dX8_due_6 (by decide) ?_
  refine pM_0_25 K hw rfl rfl kf_X8_103 dX8_due_7 (fun H locs hw => ?_)
  exact ret (congrArg (mdW a cA) (by exact rfl)) hw dX8_due_10
def g_X8_glyph_22 (σ : PS) (y1 : Int32) (y2 : Int32) : PS × Int32 := ((upS σ 0 1), 0)
def f_X8_glyph (σ0 : PS) (x1 : Int32) (x2 : Int32) : PS × Int32 := (if x1 < 0 then (g_X8_glyph_22 σ0 x1 x2) else (if (σ0.1 23) ≤ x1 then (g_X8_glyph_22 σ0 x1 x2) else (if x2 < 0 then (g_X8_glyph_22 σ0 x1 x2) else (if x2 ≤ 3 then ((upS σ0 0 0), (σ0.2.1 4 (Int32.toNatClampNeg ((4 * x1) + x2)))) else (g_X8_glyph_22 σ0 x1 x2)))))
theorem bm_g_X8_glyph_22 {σ : PS} {y1 : Int32} {y2 : Int32} (hI : Bm σ) : Bm (g_X8_glyph_22 σ y1 y2).1 := (bmS_0 hI)
theorem bm_X8_glyph {σ0 : PS} {x1 : Int32} {x2 : Int32} (hI : Bm σ0) : Bm (f_X8_glyph σ0 x1 x2).1 := (bxI2 (fun c2 => (bm_g_X8_glyph_22 hI)) (fun c2 => (bxI2 (fun c10 => (bm_g_X8_glyph_22 hI)) (fun c10 => (bxI2 (fun c14 => (bm_g_X8_glyph_22 hI)) (fun c14 => (bxI2 (fun c19 => (bmS_0 hI)) (fun c19 => (bm_g_X8_glyph_22 hI)))))))))
theorem pm_g_X8_glyph_22 {n : Int} {σ : PS} {y1 : Int32} {y2 : Int32} (hP : Pm n σ) : Pm (n) (g_X8_glyph_22 σ y1 y2).1 := hP
theorem pm_X8_glyph {n : Int} {σ0 : PS} {x1 : Int32} {x2 : Int32} (hP : Pm n σ0) : Pm (n) (f_X8_glyph σ0 x1 x2).1 := (bxI2 (fun c2 => (pm_g_X8_glyph_22 hP)) (fun c2 => (bxI2 (fun c10 => (pm_g_X8_glyph_22 hP)) (fun c10 => (bxI2 (fun c14 => (pm_g_X8_glyph_22 hP)) (fun c14 => (bxI2 (fun c19 => hP) (fun c19 => (pm_g_X8_glyph_22 hP)))))))))
abbrev rm_X8_glyph : Room := { frames := 0, cells := 0, slots := 0, locals := 0 }
set_option maxHeartbeats 4000000 in
set_option maxRecDepth 100000 in
theorem c_X8_glyph (l : Launch) (D : va_G) (a : Nat → Nat) (cA : Nat → ClassId) (σ0 : PS) (x1 : Int32) (x2 : Int32) (hI : Bm σ0) : CI l yX8_glyph cX8_glyph 3 .int rm_X8_glyph D (mdT cA) [.ref (a 0), .int x1, .int x2] (mdW a cA σ0) (mdW a cA (f_X8_glyph σ0 x1 x2).1) (f_X8_glyph σ0 x1 x2).2 := by
  refine en_i (by decide +kernel) (Nat.le_of_ble_eq_true rfl) rfl ?_
  intro p e s m args below meth c A ls Q K hw hl ret
  have hl : lv_has ls 3 [(0, .ref (a 0)), (1, .int x1), (2, .int x2)] := hl
  have J22 : ∀ (σ : PS) (y1 : Int32) (y2 : Int32) (H : Heap) (locs : List Loc) (ls : Array Slot), WD D A s.heap (mdW a cA σ) H locs → lv_has ls 3 [(0, .ref (a 0)), (1, .int y1), (2, .int y2)] → Bm σ → f_X8_glyph σ0 x1 x2 = g_X8_glyph_22 σ y1 y2 → W p l e rm_X8_glyph s m args below meth c H locs 0 0 Q (F0 m 22 ls [.ref (a 0)]) := by
    intro σ y1 y2 H locs ls hw hl hI e0
    refine lv_iconst (v := 1) K.1 K.2.1 dX8_glyph_22 (by decide) ?_
    refine lv_goto (tgt := 27) K.1 K.2.1 dX8_glyph_23 (by decide) ?_
    refine pM_0_0 K hw kf_X8_39 dX8_glyph_27 (fun H locs hw => ?_)
    refine lv_aload_n K.1 K.2.1 dX8_glyph_30 rfl (lv_at hl 0 rfl) ?_
    refine gM_0_0 K hw kf_X8_39 dX8_glyph_31 ?_
    refine lv_if_le (tgt := 41) K.1 K.2.1 dX8_glyph_34 (by decide) (fun c34 => absurd c34 (by show ¬ ((1 : Int32) ≤ (0 : Int32)); decide)) (fun _ => ?_)
    refine lv_iconst (v := 0) K.1 K.2.1 dX8_glyph_37 (by decide) ?_
    refine lv_goto (tgt := 51) K.1 K.2.1 dX8_glyph_38 (by decide) ?_
    have eq9 : f_X8_glyph σ0 x1 x2 = ((upS σ 0 1), 0) := (by exact (Eq.trans e0 rfl))
    exact ret (congrArg (fun z => mdW a cA z.1) eq9) (congrArg (fun z => z.2) eq9) hw dX8_glyph_51
  refine lv_aload_n K.1 K.2.1 dX8_glyph_0 rfl (lv_at hl 0 rfl) ?_
  refine lv_iload_n K.1 K.2.1 dX8_glyph_1 rfl (lv_at hl 1 rfl) ?_
  refine lv_if_lt (tgt := 22) K.1 K.2.1 dX8_glyph_2 (by decide) (fun c2 => ?_) (fun c2 => ?_)
  · exact J22 _ _ _ _ _ _ hw (lv_sub hl [0, 1, 2] rfl) hI (by exact (Eq.trans (if_pos c2) rfl))
  · refine lv_iload_n K.1 K.2.1 dX8_glyph_5 rfl (lv_at hl 1 rfl) ?_
    refine lv_aload_n K.1 K.2.1 dX8_glyph_6 rfl (lv_at hl 0 rfl) ?_
    refine gM_0_23 K hw kf_X8_100 dX8_glyph_7 ?_
    refine lv_icmp_ge (tgt := 22) K.1 K.2.1 dX8_glyph_10 (by decide) (fun c10 => ?_) (fun c10 => ?_)
    · exact J22 _ _ _ _ _ _ hw (lv_sub hl [0, 1, 2] rfl) hI (by exact (Eq.trans (if_neg c2) (Eq.trans (if_pos c10) rfl)))
    · refine lv_iload_n K.1 K.2.1 dX8_glyph_13 rfl (lv_at hl 2 rfl) ?_
      refine lv_if_lt (tgt := 22) K.1 K.2.1 dX8_glyph_14 (by decide) (fun c14 => ?_) (fun c14 => ?_)
      · exact J22 _ _ _ _ _ _ hw (lv_sub hl [0, 1, 2] rfl) hI (by exact (Eq.trans (if_neg c2) (Eq.trans (if_neg c10) (Eq.trans (if_pos c14) rfl))))
      · refine lv_iload_n K.1 K.2.1 dX8_glyph_17 rfl (lv_at hl 2 rfl) ?_
        refine lv_iconst (v := 3) K.1 K.2.1 dX8_glyph_18 (by decide) ?_
        refine lv_icmp_le (tgt := 26) K.1 K.2.1 dX8_glyph_19 (by decide) (fun c19 => ?_) (fun c19 => ?_)
        · refine lv_iconst (v := 0) K.1 K.2.1 dX8_glyph_26 (by decide) ?_
          refine pM_0_0 K hw kf_X8_39 dX8_glyph_27 (fun H locs hw => ?_)
          refine lv_aload_n K.1 K.2.1 dX8_glyph_30 rfl (lv_at hl 0 rfl) ?_
          refine gM_0_0 K hw kf_X8_39 dX8_glyph_31 ?_
          refine lv_if_le (tgt := 41) K.1 K.2.1 dX8_glyph_34 (by decide) (fun _ => ?_) (fun c34 => absurd c34 (by show ¬ ¬ ((0 : Int32) ≤ (0 : Int32)); decide))
          refine lv_aload_n K.1 K.2.1 dX8_glyph_41 rfl (lv_at hl 0 rfl) ?_
          refine gM_0_26 K hw kf_X8_23 dX8_glyph_42 ?_
          refine lv_iconst (v := 4) K.1 K.2.1 dX8_glyph_45 (by decide) ?_
          refine lv_iload_n K.1 K.2.1 dX8_glyph_46 rfl (lv_at hl 1 rfl) ?_
          refine lv_imul K.1 K.2.1 dX8_glyph_47 ?_
          refine lv_iload_n K.1 K.2.1 dX8_glyph_48 rfl (lv_at hl 2 rfl) ?_
          refine lv_iadd K.1 K.2.1 dX8_glyph_49 ?_
          refine lM_5 K hw (vGy (bmg_23 (σ := σ0) hI) c2 c10 c14 c19) rfl dX8_glyph_50 ?_
          have eq9 : f_X8_glyph σ0 x1 x2 = ((upS σ0 0 0), (σ0.2.1 4 (Int32.toNatClampNeg ((4 * x1) + x2)))) := (by exact (Eq.trans (if_neg c2) (Eq.trans (if_neg c10) (Eq.trans (if_neg c14) (Eq.trans (if_pos c19) rfl)))))
          exact ret (congrArg (fun z => mdW a cA z.1) eq9) (congrArg (fun z => z.2) eq9) hw dX8_glyph_51
        · exact J22 _ _ _ _ _ _ hw (lv_sub hl [0, 1, 2] rfl) hI (by exact (Eq.trans (if_neg c2) (Eq.trans (if_neg c10) (Eq.trans (if_neg c14) (Eq.trans (if_neg c19) rfl)))))
def g_X8_page_33 (σ : PS) (y1 : Int32) (y2 : Int32) : PS × Int32 := ((upS σ 0 1), 0)
def f_X8_page (σ0 : PS) (x1 : Int32) (x2 : Int32) : PS × Int32 := (if x1 < 0 then (g_X8_page_33 σ0 x1 x2) else (if (σ0.1 27) ≤ x1 then (g_X8_page_33 σ0 x1 x2) else (if x1 < ((σ0.1 27) - 40) then (g_X8_page_33 σ0 x1 x2) else (if x2 < 0 then (g_X8_page_33 σ0 x1 x2) else (if x2 ≤ 3 then ((upS σ0 0 0), (σ0.2.1 5 (Int32.toNatClampNeg ((4 * (x1 - x1 / 40 * 40)) + x2)))) else (g_X8_page_33 σ0 x1 x2))))))
theorem bm_g_X8_page_33 {σ : PS} {y1 : Int32} {y2 : Int32} (hI : Bm σ) : Bm (g_X8_page_33 σ y1 y2).1 := (bmS_0 hI)
theorem bm_X8_page {σ0 : PS} {x1 : Int32} {x2 : Int32} (hI : Bm σ0) : Bm (f_X8_page σ0 x1 x2).1 := (bxI2 (fun c2 => (bm_g_X8_page_33 hI)) (fun c2 => (bxI2 (fun c10 => (bm_g_X8_page_33 hI)) (fun c10 => (bxI2 (fun c21 => (bm_g_X8_page_33 hI)) (fun c21 => (bxI2 (fun c25 => (bm_g_X8_page_33 hI)) (fun c25 => (bxI2 (fun c30 => (bmS_0 hI)) (fun c30 => (bm_g_X8_page_33 hI)))))))))))
theorem pm_g_X8_page_33 {n : Int} {σ : PS} {y1 : Int32} {y2 : Int32} (hP : Pm n σ) : Pm (n) (g_X8_page_33 σ y1 y2).1 := hP
theorem pm_X8_page {n : Int} {σ0 : PS} {x1 : Int32} {x2 : Int32} (hP : Pm n σ0) : Pm (n) (f_X8_page σ0 x1 x2).1 := (bxI2 (fun c2 => (pm_g_X8_page_33 hP)) (fun c2 => (bxI2 (fun c10 => (pm_g_X8_page_33 hP)) (fun c10 => (bxI2 (fun c21 => (pm_g_X8_page_33 hP)) (fun c21 => (bxI2 (fun c25 => (pm_g_X8_page_33 hP)) (fun c25 => (bxI2 (fun c30 => hP) (fun c30 => (pm_g_X8_page_33 hP)))))))))))
abbrev rm_X8_page : Room := { frames := 0, cells := 0, slots := 0, locals := 0 }
set_option maxHeartbeats 4000000 in
set_option maxRecDepth 100000 in
theorem c_X8_page (l : Launch) (D : va_G) (a : Nat → Nat) (cA : Nat → ClassId) (σ0 : PS) (x1 : Int32) (x2 : Int32) : CI l yX8_page cX8_page 3 .int rm_X8_page D (mdT cA) [.ref (a 0), .int x1, .int x2] (mdW a cA σ0) (mdW a cA (f_X8_page σ0 x1 x2).1) (f_X8_page σ0 x1 x2).2 := by
  refine en_i (by decide +kernel) (Nat.le_of_ble_eq_true rfl) rfl ?_
  intro p e s m args below meth c A ls Q K hw hl ret
  have hl : lv_has ls 3 [(0, .ref (a 0)), (1, .int x1), (2, .int x2)] := hl
  have J33 : ∀ (σ : PS) (y1 : Int32) (y2 : Int32) (H : Heap) (locs : List Loc) (ls : Array Slot), WD D A s.heap (mdW a cA σ) H locs → lv_has ls 3 [(0, .ref (a 0)), (1, .int y1), (2, .int y2)] → f_X8_page σ0 x1 x2 = g_X8_page_33 σ y1 y2 → W p l e rm_X8_page s m args below meth c H locs 0 0 Q (F0 m 33 ls [.ref (a 0)]) := by
    intro σ y1 y2 H locs ls hw hl e0
    refine lv_iconst (v := 1) K.1 K.2.1 dX8_page_33 (by decide) ?_
    refine lv_goto (tgt := 38) K.1 K.2.1 dX8_page_34 (by decide) ?_
    refine pM_0_0 K hw kf_X8_39 dX8_page_38 (fun H locs hw => ?_)
    refine lv_aload_n K.1 K.2.1 dX8_page_41 rfl (lv_at hl 0 rfl) ?_
    refine gM_0_0 K hw kf_X8_39 dX8_page_42 ?_
    refine lv_if_le (tgt := 52) K.1 K.2.1 dX8_page_45 (by decide) (fun c45 => absurd c45 (by show ¬ ((1 : Int32) ≤ (0 : Int32)); decide)) (fun _ => ?_)
    refine lv_iconst (v := 0) K.1 K.2.1 dX8_page_48 (by decide) ?_
    refine lv_goto (tgt := 65) K.1 K.2.1 dX8_page_49 (by decide) ?_
    have eq9 : f_X8_page σ0 x1 x2 = ((upS σ 0 1), 0) := (by exact (Eq.trans e0 rfl))
    exact ret (congrArg (fun z => mdW a cA z.1) eq9) (congrArg (fun z => z.2) eq9) hw dX8_page_65
  refine lv_aload_n K.1 K.2.1 dX8_page_0 rfl (lv_at hl 0 rfl) ?_
  refine lv_iload_n K.1 K.2.1 dX8_page_1 rfl (lv_at hl 1 rfl) ?_
  refine lv_if_lt (tgt := 33) K.1 K.2.1 dX8_page_2 (by decide) (fun c2 => ?_) (fun c2 => ?_)
  · exact J33 _ _ _ _ _ _ hw (lv_sub hl [0, 1, 2] rfl) (by exact (Eq.trans (if_pos c2) rfl))
  · refine lv_iload_n K.1 K.2.1 dX8_page_5 rfl (lv_at hl 1 rfl) ?_
    refine lv_aload_n K.1 K.2.1 dX8_page_6 rfl (lv_at hl 0 rfl) ?_
    refine gM_0_27 K hw kf_X8_94 dX8_page_7 ?_
    refine lv_icmp_ge (tgt := 33) K.1 K.2.1 dX8_page_10 (by decide) (fun c10 => ?_) (fun c10 => ?_)
    · exact J33 _ _ _ _ _ _ hw (lv_sub hl [0, 1, 2] rfl) (by exact (Eq.trans (if_neg c2) (Eq.trans (if_pos c10) rfl)))
    · refine lv_iload_n K.1 K.2.1 dX8_page_13 rfl (lv_at hl 1 rfl) ?_
      refine lv_aload_n K.1 K.2.1 dX8_page_14 rfl (lv_at hl 0 rfl) ?_
      refine gM_0_27 K hw kf_X8_94 dX8_page_15 ?_
      refine lv_bipush (v := 40) K.1 K.2.1 dX8_page_18 (by decide) ?_
      refine lv_isub K.1 K.2.1 dX8_page_20 ?_
      refine lv_icmp_lt (tgt := 33) K.1 K.2.1 dX8_page_21 (by decide) (fun c21 => ?_) (fun c21 => ?_)
      · exact J33 _ _ _ _ _ _ hw (lv_sub hl [0, 1, 2] rfl) (by exact (Eq.trans (if_neg c2) (Eq.trans (if_neg c10) (Eq.trans (if_pos c21) rfl))))
      · refine lv_iload_n K.1 K.2.1 dX8_page_24 rfl (lv_at hl 2 rfl) ?_
        refine lv_if_lt (tgt := 33) K.1 K.2.1 dX8_page_25 (by decide) (fun c25 => ?_) (fun c25 => ?_)
        · exact J33 _ _ _ _ _ _ hw (lv_sub hl [0, 1, 2] rfl) (by exact (Eq.trans (if_neg c2) (Eq.trans (if_neg c10) (Eq.trans (if_neg c21) (Eq.trans (if_pos c25) rfl)))))
        · refine lv_iload_n K.1 K.2.1 dX8_page_28 rfl (lv_at hl 2 rfl) ?_
          refine lv_iconst (v := 3) K.1 K.2.1 dX8_page_29 (by decide) ?_
          refine lv_icmp_le (tgt := 37) K.1 K.2.1 dX8_page_30 (by decide) (fun c30 => ?_) (fun c30 => ?_)
          · refine lv_iconst (v := 0) K.1 K.2.1 dX8_page_37 (by decide) ?_
            refine pM_0_0 K hw kf_X8_39 dX8_page_38 (fun H locs hw => ?_)
            refine lv_aload_n K.1 K.2.1 dX8_page_41 rfl (lv_at hl 0 rfl) ?_
            refine gM_0_0 K hw kf_X8_39 dX8_page_42 ?_
            refine lv_if_le (tgt := 52) K.1 K.2.1 dX8_page_45 (by decide) (fun _ => ?_) (fun c45 => absurd c45 (by show ¬ ¬ ((0 : Int32) ≤ (0 : Int32)); decide))
            refine lv_aload_n K.1 K.2.1 dX8_page_52 rfl (lv_at hl 0 rfl) ?_
            refine gM_0_28 K hw kf_X8_26 dX8_page_53 ?_
            refine lv_iconst (v := 4) K.1 K.2.1 dX8_page_56 (by decide) ?_
            refine lv_iload_n K.1 K.2.1 dX8_page_57 rfl (lv_at hl 1 rfl) ?_
            refine lv_bipush (v := 40) K.1 K.2.1 dX8_page_58 (by decide) ?_
            refine lv_irem K.1 K.2.1 dX8_page_60 (by decide) ?_
            refine lv_imul K.1 K.2.1 dX8_page_61 ?_
            refine lv_iload_n K.1 K.2.1 dX8_page_62 rfl (lv_at hl 2 rfl) ?_
            refine lv_iadd K.1 K.2.1 dX8_page_63 ?_
            refine lM_6 K hw (pgI (nn0 c2) (le3 c25 c30 rfl)) rfl dX8_page_64 ?_
            have eq9 : f_X8_page σ0 x1 x2 = ((upS σ0 0 0), (σ0.2.1 5 (Int32.toNatClampNeg ((4 * (x1 - x1 / 40 * 40)) + x2)))) := (by exact (Eq.trans (if_neg c2) (Eq.trans (if_neg c10) (Eq.trans (if_neg c21) (Eq.trans (if_neg c25) (Eq.trans (if_pos c30) rfl))))))
            exact ret (congrArg (fun z => mdW a cA z.1) eq9) (congrArg (fun z => z.2) eq9) hw dX8_page_65
          · exact J33 _ _ _ _ _ _ hw (lv_sub hl [0, 1, 2] rfl) (by exact (Eq.trans (if_neg c2) (Eq.trans (if_neg c10) (Eq.trans (if_neg c21) (Eq.trans (if_neg c25) (Eq.trans (if_neg c30) rfl))))))
def g_X8_other_22 (σ : PS) (y1 : Int32) : PS × Int32 := ((upS σ 0 2), 0)
def f_X8_other (σ0 : PS) (x1 : Int32) : PS × Int32 := (if (σ0.1 29) = 0 then ((upS σ0 0 1), 0) else (if x1 < 0 then (g_X8_other_22 σ0 x1) else (if x1 ≤ 6 then ((upS σ0 0 0), (σ0.2.1 6 (Int32.toNatClampNeg x1))) else (g_X8_other_22 σ0 x1))))
theorem bm_g_X8_other_22 {σ : PS} {y1 : Int32} (hI : Bm σ) : Bm (g_X8_other_22 σ y1).1 := (bmS_0 hI)
theorem bm_X8_other {σ0 : PS} {x1 : Int32} (hI : Bm σ0) : Bm (f_X8_other σ0 x1).1 := (bxI2 (fun c5 => (bmS_0 hI)) (fun c5 => (bxI2 (fun c13 => (bm_g_X8_other_22 hI)) (fun c13 => (bxI2 (fun c19 => (bmS_0 hI)) (fun c19 => (bm_g_X8_other_22 hI)))))))
theorem pm_g_X8_other_22 {n : Int} {σ : PS} {y1 : Int32} (hP : Pm n σ) : Pm (n) (g_X8_other_22 σ y1).1 := hP
theorem pm_X8_other {n : Int} {σ0 : PS} {x1 : Int32} (hP : Pm n σ0) : Pm (n) (f_X8_other σ0 x1).1 := (bxI2 (fun c5 => hP) (fun c5 => (bxI2 (fun c13 => (pm_g_X8_other_22 hP)) (fun c13 => (bxI2 (fun c19 => hP) (fun c19 => (pm_g_X8_other_22 hP)))))))
abbrev rm_X8_other : Room := { frames := 0, cells := 0, slots := 0, locals := 0 }
set_option maxHeartbeats 4000000 in
set_option maxRecDepth 100000 in
theorem c_X8_other (l : Launch) (D : va_G) (a : Nat → Nat) (cA : Nat → ClassId) (σ0 : PS) (x1 : Int32) : CI l yX8_other cX8_other 2 .int rm_X8_other D (mdT cA) [.ref (a 0), .int x1] (mdW a cA σ0) (mdW a cA (f_X8_other σ0 x1).1) (f_X8_other σ0 x1).2 := by
  refine en_i (by decide +kernel) (Nat.le_of_ble_eq_true rfl) rfl ?_
  intro p e s m args below meth c A ls Q K hw hl ret
  have hl : lv_has ls 2 [(0, .ref (a 0)), (1, .int x1)] := hl
  have J22 : ∀ (σ : PS) (y1 : Int32) (H : Heap) (locs : List Loc) (ls : Array Slot), WD D A s.heap (mdW a cA σ) H locs → lv_has ls 2 [(0, .ref (a 0)), (1, .int y1)] → f_X8_other σ0 x1 = g_X8_other_22 σ y1 → W p l e rm_X8_other s m args below meth c H locs 0 0 Q (F0 m 22 ls [.ref (a 0)]) := by
    intro σ y1 H locs ls hw hl e0
    refine lv_iconst (v := 2) K.1 K.2.1 dX8_other_22 (by decide) ?_
    refine lv_goto (tgt := 27) K.1 K.2.1 dX8_other_23 (by decide) ?_
    refine pM_0_0 K hw kf_X8_39 dX8_other_27 (fun H locs hw => ?_)
    refine lv_aload_n K.1 K.2.1 dX8_other_30 rfl (lv_at hl 0 rfl) ?_
    refine gM_0_0 K hw kf_X8_39 dX8_other_31 ?_
    refine lv_if_le (tgt := 41) K.1 K.2.1 dX8_other_34 (by decide) (fun c34 => absurd c34 (by show ¬ ((2 : Int32) ≤ (0 : Int32)); decide)) (fun _ => ?_)
    refine lv_iconst (v := 0) K.1 K.2.1 dX8_other_37 (by decide) ?_
    refine lv_goto (tgt := 47) K.1 K.2.1 dX8_other_38 (by decide) ?_
    have eq9 : f_X8_other σ0 x1 = ((upS σ 0 2), 0) := (by exact (Eq.trans e0 rfl))
    exact ret (congrArg (fun z => mdW a cA z.1) eq9) (congrArg (fun z => z.2) eq9) hw dX8_other_47
  refine lv_aload_n K.1 K.2.1 dX8_other_0 rfl (lv_at hl 0 rfl) ?_
  refine lv_aload_n K.1 K.2.1 dX8_other_1 rfl (lv_at hl 0 rfl) ?_
  refine gM_0_29 K hw kf_X8_182 dX8_other_2 ?_
  refine lv_if_ne (tgt := 12) K.1 K.2.1 dX8_other_5 (by decide) (fun c5 => ?_) (fun c5 => ?_)
  · refine lv_iload_n K.1 K.2.1 dX8_other_12 rfl (lv_at hl 1 rfl) ?_
    refine lv_if_lt (tgt := 22) K.1 K.2.1 dX8_other_13 (by decide) (fun c13 => ?_) (fun c13 => ?_)
    · exact J22 _ _ _ _ _ hw (lv_sub hl [0, 1] rfl) (by exact (Eq.trans (if_neg c5) (Eq.trans (if_pos c13) rfl)))
    · refine lv_iload_n K.1 K.2.1 dX8_other_16 rfl (lv_at hl 1 rfl) ?_
      refine lv_bipush (v := 6) K.1 K.2.1 dX8_other_17 (by decide) ?_
      refine lv_icmp_le (tgt := 26) K.1 K.2.1 dX8_other_19 (by decide) (fun c19 => ?_) (fun c19 => ?_)
      · refine lv_iconst (v := 0) K.1 K.2.1 dX8_other_26 (by decide) ?_
        refine pM_0_0 K hw kf_X8_39 dX8_other_27 (fun H locs hw => ?_)
        refine lv_aload_n K.1 K.2.1 dX8_other_30 rfl (lv_at hl 0 rfl) ?_
        refine gM_0_0 K hw kf_X8_39 dX8_other_31 ?_
        refine lv_if_le (tgt := 41) K.1 K.2.1 dX8_other_34 (by decide) (fun _ => ?_) (fun c34 => absurd c34 (by show ¬ ¬ ((0 : Int32) ≤ (0 : Int32)); decide))
        refine lv_aload_n K.1 K.2.1 dX8_other_41 rfl (lv_at hl 0 rfl) ?_
        refine gM_0_30 K hw kf_X8_29 dX8_other_42 ?_
        refine lv_iload_n K.1 K.2.1 dX8_other_45 rfl (lv_at hl 1 rfl) ?_
        refine lM_7 K hw (vB2 112 (le3 c13 c19 (b := 6) rfl) (by decide)) rfl dX8_other_46 ?_
        have eq9 : f_X8_other σ0 x1 = ((upS σ0 0 0), (σ0.2.1 6 (Int32.toNatClampNeg x1))) := (by exact (Eq.trans (if_neg c5) (Eq.trans (if_neg c13) (Eq.trans (if_pos c19) rfl))))
        exact ret (congrArg (fun z => mdW a cA z.1) eq9) (congrArg (fun z => z.2) eq9) hw dX8_other_47
      · exact J22 _ _ _ _ _ hw (lv_sub hl [0, 1] rfl) (by exact (Eq.trans (if_neg c5) (Eq.trans (if_neg c13) (Eq.trans (if_neg c19) rfl))))
  · refine lv_iconst (v := 1) K.1 K.2.1 dX8_other_8 (by decide) ?_
    refine lv_goto (tgt := 27) K.1 K.2.1 dX8_other_9 (by decide) ?_
    refine pM_0_0 K hw kf_X8_39 dX8_other_27 (fun H locs hw => ?_)
    refine lv_aload_n K.1 K.2.1 dX8_other_30 rfl (lv_at hl 0 rfl) ?_
    refine gM_0_0 K hw kf_X8_39 dX8_other_31 ?_
    refine lv_if_le (tgt := 41) K.1 K.2.1 dX8_other_34 (by decide) (fun c34 => absurd c34 (by show ¬ ((1 : Int32) ≤ (0 : Int32)); decide)) (fun _ => ?_)
    refine lv_iconst (v := 0) K.1 K.2.1 dX8_other_37 (by decide) ?_
    refine lv_goto (tgt := 47) K.1 K.2.1 dX8_other_38 (by decide) ?_
    have eq9 : f_X8_other σ0 x1 = ((upS σ0 0 1), 0) := (by exact (Eq.trans (if_pos c5) rfl))
    exact ret (congrArg (fun z => mdW a cA z.1) eq9) (congrArg (fun z => z.2) eq9) hw dX8_other_47
def g_X8_place_16 (σ : PS) (y1 : Int32) (y2 : Int32) : PS × Int32 := ((upS σ 0 1), 0)
def f_X8_place (σ0 : PS) (x1 : Int32) (x2 : Int32) : PS × Int32 := (if x1 < 0 then (g_X8_place_16 σ0 x1 x2) else (if x1 < (σ0.2.1 0 12) then (if x2 = 0 then ((upS σ0 0 0), (σ0.2.1 0 (Int32.toNatClampNeg ((13 + (2 * x1)) + 0)))) else ((upS σ0 0 0), (σ0.2.1 0 (Int32.toNatClampNeg ((13 + (2 * x1)) + 1))))) else (g_X8_place_16 σ0 x1 x2)))
theorem bm_g_X8_place_16 {σ : PS} {y1 : Int32} {y2 : Int32} (hI : Bm σ) : Bm (g_X8_place_16 σ y1 y2).1 := (bmS_0 hI)
theorem bm_X8_place {σ0 : PS} {x1 : Int32} {x2 : Int32} (hI : Bm σ0) : Bm (f_X8_place σ0 x1 x2).1 := (bxI2 (fun c2 => (bm_g_X8_place_16 hI)) (fun c2 => (bxI2 (fun c13 => (bxI2 (fun c46 => (bmS_0 hI)) (fun c46 => (bmS_0 hI)))) (fun c13 => (bm_g_X8_place_16 hI)))))
theorem pm_g_X8_place_16 {n : Int} {σ : PS} {y1 : Int32} {y2 : Int32} (hP : Pm n σ) : Pm (n) (g_X8_place_16 σ y1 y2).1 := hP
theorem pm_X8_place {n : Int} {σ0 : PS} {x1 : Int32} {x2 : Int32} (hP : Pm n σ0) : Pm (n) (f_X8_place σ0 x1 x2).1 := (bxI2 (fun c2 => (pm_g_X8_place_16 hP)) (fun c2 => (bxI2 (fun c13 => (bxI2 (fun c46 => hP) (fun c46 => hP))) (fun c13 => (pm_g_X8_place_16 hP)))))
abbrev rm_X8_place : Room := { frames := 0, cells := 0, slots := 0, locals := 0 }
set_option maxHeartbeats 4000000 in
set_option maxRecDepth 100000 in
theorem c_X8_place (l : Launch) (D : va_G) (a : Nat → Nat) (cA : Nat → ClassId) (σ0 : PS) (x1 : Int32) (x2 : Int32) (hI : Bm σ0) : CI l yX8_place cX8_place 3 .int rm_X8_place D (mdT cA) [.ref (a 0), .int x1, .int x2] (mdW a cA σ0) (mdW a cA (f_X8_place σ0 x1 x2).1) (f_X8_place σ0 x1 x2).2 := by
  refine en_i (by decide +kernel) (Nat.le_of_ble_eq_true rfl) rfl ?_
  intro p e s m args below meth c A ls Q K hw hl ret
  have hl : lv_has ls 3 [(0, .ref (a 0)), (1, .int x1), (2, .int x2)] := hl
  have J16 : ∀ (σ : PS) (y1 : Int32) (y2 : Int32) (H : Heap) (locs : List Loc) (ls : Array Slot), WD D A s.heap (mdW a cA σ) H locs → lv_has ls 3 [(0, .ref (a 0)), (1, .int y1), (2, .int y2)] → Bm σ → f_X8_place σ0 x1 x2 = g_X8_place_16 σ y1 y2 → W p l e rm_X8_place s m args below meth c H locs 0 0 Q (F0 m 16 ls [.ref (a 0)]) := by
    intro σ y1 y2 H locs ls hw hl hI e0
    refine lv_iconst (v := 1) K.1 K.2.1 dX8_place_16 (by decide) ?_
    refine lv_goto (tgt := 21) K.1 K.2.1 dX8_place_17 (by decide) ?_
    refine pM_0_0 K hw kf_X8_39 dX8_place_21 (fun H locs hw => ?_)
    refine lv_aload_n K.1 K.2.1 dX8_place_24 rfl (lv_at hl 0 rfl) ?_
    refine gM_0_0 K hw kf_X8_39 dX8_place_25 ?_
    refine lv_if_le (tgt := 35) K.1 K.2.1 dX8_place_28 (by decide) (fun c28 => absurd c28 (by show ¬ ((1 : Int32) ≤ (0 : Int32)); decide)) (fun _ => ?_)
    refine lv_iconst (v := 0) K.1 K.2.1 dX8_place_31 (by decide) ?_
    refine lv_goto (tgt := 56) K.1 K.2.1 dX8_place_32 (by decide) ?_
    have eq9 : f_X8_place σ0 x1 x2 = ((upS σ 0 1), 0) := (by exact (Eq.trans e0 rfl))
    exact ret (congrArg (fun z => mdW a cA z.1) eq9) (congrArg (fun z => z.2) eq9) hw dX8_place_56
  refine lv_aload_n K.1 K.2.1 dX8_place_0 rfl (lv_at hl 0 rfl) ?_
  refine lv_iload_n K.1 K.2.1 dX8_place_1 rfl (lv_at hl 1 rfl) ?_
  refine lv_if_lt (tgt := 16) K.1 K.2.1 dX8_place_2 (by decide) (fun c2 => ?_) (fun c2 => ?_)
  · exact J16 _ _ _ _ _ _ hw (lv_sub hl [0, 1, 2] rfl) hI (by exact (Eq.trans (if_pos c2) rfl))
  · refine lv_iload_n K.1 K.2.1 dX8_place_5 rfl (lv_at hl 1 rfl) ?_
    refine lv_aload_n K.1 K.2.1 dX8_place_6 rfl (lv_at hl 0 rfl) ?_
    refine gM_0_1 K hw kf_X8_7 dX8_place_7 ?_
    refine lv_bipush (v := 12) K.1 K.2.1 dX8_place_10 (by decide) ?_
    refine lM_1 K hw (vi_12 (by decide)) cl_12 dX8_place_12 ?_
    refine lv_icmp_lt (tgt := 20) K.1 K.2.1 dX8_place_13 (by decide) (fun c13 => ?_) (fun c13 => ?_)
    · refine lv_iconst (v := 0) K.1 K.2.1 dX8_place_20 (by decide) ?_
      refine pM_0_0 K hw kf_X8_39 dX8_place_21 (fun H locs hw => ?_)
      refine lv_aload_n K.1 K.2.1 dX8_place_24 rfl (lv_at hl 0 rfl) ?_
      refine gM_0_0 K hw kf_X8_39 dX8_place_25 ?_
      refine lv_if_le (tgt := 35) K.1 K.2.1 dX8_place_28 (by decide) (fun _ => ?_) (fun c28 => absurd c28 (by show ¬ ¬ ((0 : Int32) ≤ (0 : Int32)); decide))
      refine lv_aload_n K.1 K.2.1 dX8_place_35 rfl (lv_at hl 0 rfl) ?_
      refine gM_0_1 K hw kf_X8_7 dX8_place_36 ?_
      refine lv_bipush (v := 13) K.1 K.2.1 dX8_place_39 (by decide) ?_
      refine lv_iconst (v := 2) K.1 K.2.1 dX8_place_41 (by decide) ?_
      refine lv_iload_n K.1 K.2.1 dX8_place_42 rfl (lv_at hl 1 rfl) ?_
      refine lv_imul K.1 K.2.1 dX8_place_43 ?_
      refine lv_iadd K.1 K.2.1 dX8_place_44 ?_
      refine lv_iload_n K.1 K.2.1 dX8_place_45 rfl (lv_at hl 2 rfl) ?_
      refine lv_if_eq (tgt := 53) K.1 K.2.1 dX8_place_46 (by decide) (fun c46 => ?_) (fun c46 => ?_)
      · refine lv_iconst (v := 0) K.1 K.2.1 dX8_place_53 (by decide) ?_
        refine lv_iadd K.1 K.2.1 dX8_place_54 ?_
        refine lM_1 K hw (vPl (bmt_12 (σ := σ0) hI) c2 c13 (by decide)) rfl dX8_place_55 ?_
        have eq9 : f_X8_place σ0 x1 x2 = ((upS σ0 0 0), (σ0.2.1 0 (Int32.toNatClampNeg ((13 + (2 * x1)) + 0)))) := (by exact (Eq.trans (if_neg c2) (Eq.trans (if_pos c13) (Eq.trans (if_pos c46) rfl))))
        exact ret (congrArg (fun z => mdW a cA z.1) eq9) (congrArg (fun z => z.2) eq9) hw dX8_place_56
      · refine lv_iconst (v := 1) K.1 K.2.1 dX8_place_49 (by decide) ?_
        refine lv_goto (tgt := 54) K.1 K.2.1 dX8_place_50 (by decide) ?_
        refine lv_iadd K.1 K.2.1 dX8_place_54 ?_
        refine lM_1 K hw (vPl (bmt_12 (σ := σ0) hI) c2 c13 (by decide)) rfl dX8_place_55 ?_
        have eq9 : f_X8_place σ0 x1 x2 = ((upS σ0 0 0), (σ0.2.1 0 (Int32.toNatClampNeg ((13 + (2 * x1)) + 1)))) := (by exact (Eq.trans (if_neg c2) (Eq.trans (if_pos c13) (Eq.trans (if_neg c46) rfl))))
        exact ret (congrArg (fun z => mdW a cA z.1) eq9) (congrArg (fun z => z.2) eq9) hw dX8_place_56
    · exact J16 _ _ _ _ _ _ hw (lv_sub hl [0, 1, 2] rfl) hI (by exact (Eq.trans (if_neg c2) (Eq.trans (if_neg c13) rfl)))
def g_X8_look_22 (σ : PS) (y1 : Int32) : PS × Int32 := (if y1 = 8 then (σ, (σ.1 7)) else (if y1 = 9 then (σ, (σ.1 8)) else (if y1 = 10 then (σ, (σ.1 4)) else (if y1 = 11 then (σ, (σ.1 5)) else (if y1 = 12 then (σ, (σ.2.1 0 (Int32.toNatClampNeg (y1 - 4)))) else (if y1 = 13 then (σ, (σ.2.1 0 (Int32.toNatClampNeg (y1 - 4)))) else (if y1 = 14 then (σ, (σ.2.1 0 (Int32.toNatClampNeg (y1 - 4)))) else (if y1 = 15 then (σ, (σ.1 6)) else (if y1 = 16 then (σ, (σ.2.1 0 11)) else (if y1 = 17 then (σ, (σ.2.1 0 12)) else (if y1 = 18 then (σ, (σ.1 23)) else (if y1 = 19 then (if (σ.1 24) ≤ (σ.1 23) then (σ, 0) else (σ, 1)) else (if y1 = 20 then (σ, (σ.1 27)) else (if y1 = 21 then (σ, (σ.1 29)) else (if y1 = 22 then (σ, (σ.1 22)) else (if y1 = 23 then (if (σ.1 10) ≤ 0 then (σ, 0) else (σ, 1)) else (if y1 = 24 then (if 0 < (σ.1 24) then (σ, 1) else (if (σ.1 25) = 0 then (σ, 0) else (σ, 1))) else (σ, (-1)))))))))))))))))))
def f_X8_look (σ0 : PS) (x1 : Int32) : PS × Int32 := (if x1 < 0 then (g_X8_look_22 (upS σ0 0 0) x1) else (if 8 ≤ x1 then (g_X8_look_22 (upS σ0 0 0) x1) else ((upS σ0 0 0), (σ0.2.1 0 (Int32.toNatClampNeg x1)))))
theorem bm_g_X8_look_22 {σ : PS} {y1 : Int32} (hI : Bm σ) : Bm (g_X8_look_22 σ y1).1 := (bxI2 (fun c23_8 => hI) (fun c23_8 => (bxI2 (fun c23_9 => hI) (fun c23_9 => (bxI2 (fun c23_10 => hI) (fun c23_10 => (bxI2 (fun c23_11 => hI) (fun c23_11 => (bxI2 (fun c23_12 => hI) (fun c23_12 => (bxI2 (fun c23_13 => hI) (fun c23_13 => (bxI2 (fun c23_14 => hI) (fun c23_14 => (bxI2 (fun c23_15 => hI) (fun c23_15 => (bxI2 (fun c23_16 => hI) (fun c23_16 => (bxI2 (fun c23_17 => hI) (fun c23_17 => (bxI2 (fun c23_18 => hI) (fun c23_18 => (bxI2 (fun c23_19 => (bxI2 (fun c167 => hI) (fun c167 => hI))) (fun c23_19 => (bxI2 (fun c23_20 => hI) (fun c23_20 => (bxI2 (fun c23_21 => hI) (fun c23_21 => (bxI2 (fun c23_22 => hI) (fun c23_22 => (bxI2 (fun c23_23 => (bxI2 (fun c195 => hI) (fun c195 => hI))) (fun c23_23 => (bxI2 (fun c23_24 => (bxI2 (fun c208 => hI) (fun c208 => (bxI2 (fun c215 => hI) (fun c215 => hI))))) (fun c23_24 => hI))))))))))))))))))))))))))))))))))
theorem bm_X8_look {σ0 : PS} {x1 : Int32} (hI : Bm σ0) : Bm (f_X8_look σ0 x1).1 := (bxI2 (fun c6 => (bm_g_X8_look_22 (bmS_0 hI))) (fun c6 => (bxI2 (fun c12 => (bm_g_X8_look_22 (bmS_0 hI))) (fun c12 => (bmS_0 hI)))))
theorem pm_g_X8_look_22 {n : Int} {σ : PS} {y1 : Int32} (hP : Pm n σ) : Pm (n) (g_X8_look_22 σ y1).1 := (bxI2 (fun c23_8 => hP) (fun c23_8 => (bxI2 (fun c23_9 => hP) (fun c23_9 => (bxI2 (fun c23_10 => hP) (fun c23_10 => (bxI2 (fun c23_11 => hP) (fun c23_11 => (bxI2 (fun c23_12 => hP) (fun c23_12 => (bxI2 (fun c23_13 => hP) (fun c23_13 => (bxI2 (fun c23_14 => hP) (fun c23_14 => (bxI2 (fun c23_15 => hP) (fun c23_15 => (bxI2 (fun c23_16 => hP) (fun c23_16 => (bxI2 (fun c23_17 => hP) (fun c23_17 => (bxI2 (fun c23_18 => hP) (fun c23_18 => (bxI2 (fun c23_19 => (bxI2 (fun c167 => hP) (fun c167 => hP))) (fun c23_19 => (bxI2 (fun c23_20 => hP) (fun c23_20 => (bxI2 (fun c23_21 => hP) (fun c23_21 => (bxI2 (fun c23_22 => hP) (fun c23_22 => (bxI2 (fun c23_23 => (bxI2 (fun c195 => hP) (fun c195 => hP))) (fun c23_23 => (bxI2 (fun c23_24 => (bxI2 (fun c208 => hP) (fun c208 => (bxI2 (fun c215 => hP) (fun c215 => hP))))) (fun c23_24 => hP))))))))))))))))))))))))))))))))))
theorem pm_X8_look {n : Int} {σ0 : PS} {x1 : Int32} (hP : Pm n σ0) : Pm (n) (f_X8_look σ0 x1).1 := (bxI2 (fun c6 => (pm_g_X8_look_22 hP)) (fun c6 => (bxI2 (fun c12 => (pm_g_X8_look_22 hP)) (fun c12 => hP))))
abbrev rm_X8_look : Room := { frames := 0, cells := 0, slots := 0, locals := 0 }
set_option maxHeartbeats 4000000 in
set_option maxRecDepth 100000 in
theorem c_X8_look (l : Launch) (D : va_G) (a : Nat → Nat) (cA : Nat → ClassId) (σ0 : PS) (x1 : Int32) : CI l yX8_look cX8_look 2 .int rm_X8_look D (mdT cA) [.ref (a 0), .int x1] (mdW a cA σ0) (mdW a cA (f_X8_look σ0 x1).1) (f_X8_look σ0 x1).2 := by
  refine en_i (by decide +kernel) (Nat.le_of_ble_eq_true rfl) rfl ?_
  intro p e s m args below meth c A ls Q K hw hl ret
  have hl : lv_has ls 2 [(0, .ref (a 0)), (1, .int x1)] := hl
  have J22 : ∀ (σ : PS) (y1 : Int32) (H : Heap) (locs : List Loc) (ls : Array Slot), WD D A s.heap (mdW a cA σ) H locs → lv_has ls 2 [(0, .ref (a 0)), (1, .int y1)] → f_X8_look σ0 x1 = g_X8_look_22 σ y1 → W p l e rm_X8_look s m args below meth c H locs 0 0 Q (F0 m 22 ls []) := by
    intro σ y1 H locs ls hw hl e0
    refine lv_iload_n K.1 K.2.1 dX8_look_22 rfl (lv_at hl 1 rfl) ?_
    refine sw_t K dX8_look_23 (k := 8) (tgt := 104) (by decide) (by decide) (fun c23_8 => ?_) (fun c23_8 => ?_)
    · refine lv_aload_n K.1 K.2.1 dX8_look_104 rfl (lv_at hl 0 rfl) ?_
      refine gM_0_7 K hw kf_X8_64 dX8_look_105 ?_
      have eq9 : f_X8_look σ0 x1 = (σ, (σ.1 7)) := (by exact (Eq.trans e0 (Eq.trans (if_pos c23_8) rfl)))
      exact ret (congrArg (fun z => mdW a cA z.1) eq9) (congrArg (fun z => z.2) eq9) hw dX8_look_108
    · refine sw_t K dX8_look_23 (k := 9) (tgt := 109) (by decide) (by decide) (fun c23_9 => ?_) (fun c23_9 => ?_)
      · refine lv_aload_n K.1 K.2.1 dX8_look_109 rfl (lv_at hl 0 rfl) ?_
        refine gM_0_8 K hw kf_X8_67 dX8_look_110 ?_
        have eq9 : f_X8_look σ0 x1 = (σ, (σ.1 8)) := (by exact (Eq.trans e0 (Eq.trans (if_neg c23_8) (Eq.trans (if_pos c23_9) rfl))))
        exact ret (congrArg (fun z => mdW a cA z.1) eq9) (congrArg (fun z => z.2) eq9) hw dX8_look_113
      · refine sw_t K dX8_look_23 (k := 10) (tgt := 114) (by decide) (by decide) (fun c23_10 => ?_) (fun c23_10 => ?_)
        · refine lv_aload_n K.1 K.2.1 dX8_look_114 rfl (lv_at hl 0 rfl) ?_
          refine gM_0_4 K hw kf_X8_54 dX8_look_115 ?_
          have eq9 : f_X8_look σ0 x1 = (σ, (σ.1 4)) := (by exact (Eq.trans e0 (Eq.trans (if_neg c23_8) (Eq.trans (if_neg c23_9) (Eq.trans (if_pos c23_10) rfl)))))
          exact ret (congrArg (fun z => mdW a cA z.1) eq9) (congrArg (fun z => z.2) eq9) hw dX8_look_118
        · refine sw_t K dX8_look_23 (k := 11) (tgt := 119) (by decide) (by decide) (fun c23_11 => ?_) (fun c23_11 => ?_)
          · refine lv_aload_n K.1 K.2.1 dX8_look_119 rfl (lv_at hl 0 rfl) ?_
            refine gM_0_5 K hw kf_X8_51 dX8_look_120 ?_
            have eq9 : f_X8_look σ0 x1 = (σ, (σ.1 5)) := (by exact (Eq.trans e0 (Eq.trans (if_neg c23_8) (Eq.trans (if_neg c23_9) (Eq.trans (if_neg c23_10) (Eq.trans (if_pos c23_11) rfl))))))
            exact ret (congrArg (fun z => mdW a cA z.1) eq9) (congrArg (fun z => z.2) eq9) hw dX8_look_123
          · refine sw_t K dX8_look_23 (k := 12) (tgt := 124) (by decide) (by decide) (fun c23_12 => ?_) (fun c23_12 => ?_)
            · refine lv_aload_n K.1 K.2.1 dX8_look_124 rfl (lv_at hl 0 rfl) ?_
              refine gM_0_1 K hw kf_X8_7 dX8_look_125 ?_
              refine lv_iload_n K.1 K.2.1 dX8_look_128 rfl (lv_at hl 1 rfl) ?_
              refine lv_iconst (v := 4) K.1 K.2.1 dX8_look_129 (by decide) ?_
              refine lv_isub K.1 K.2.1 dX8_look_130 ?_
              refine lM_1 K hw (by first | (rw [c23_12]; exact vpD (by decide) (by decide)) | (rw [c23_13]; exact vpD (by decide) (by decide)) | (rw [c23_14]; exact vpD (by decide) (by decide))) rfl dX8_look_131 ?_
              have eq9 : f_X8_look σ0 x1 = (σ, (σ.2.1 0 (Int32.toNatClampNeg (y1 - 4)))) := (by exact (Eq.trans e0 (Eq.trans (if_neg c23_8) (Eq.trans (if_neg c23_9) (Eq.trans (if_neg c23_10) (Eq.trans (if_neg c23_11) (Eq.trans (if_pos c23_12) rfl)))))))
              exact ret (congrArg (fun z => mdW a cA z.1) eq9) (congrArg (fun z => z.2) eq9) hw dX8_look_132
            · refine sw_t K dX8_look_23 (k := 13) (tgt := 124) (by decide) (by decide) (fun c23_13 => ?_) (fun c23_13 => ?_)
              · refine lv_aload_n K.1 K.2.1 dX8_look_124 rfl (lv_at hl 0 rfl) ?_
                refine gM_0_1 K hw kf_X8_7 dX8_look_125 ?_
                refine lv_iload_n K.1 K.2.1 dX8_look_128 rfl (lv_at hl 1 rfl) ?_
                refine lv_iconst (v := 4) K.1 K.2.1 dX8_look_129 (by decide) ?_
                refine lv_isub K.1 K.2.1 dX8_look_130 ?_
                refine lM_1 K hw (by first | (rw [c23_12]; exact vpD (by decide) (by decide)) | (rw [c23_13]; exact vpD (by decide) (by decide)) | (rw [c23_14]; exact vpD (by decide) (by decide))) rfl dX8_look_131 ?_
                have eq9 : f_X8_look σ0 x1 = (σ, (σ.2.1 0 (Int32.toNatClampNeg (y1 - 4)))) := (by exact (Eq.trans e0 (Eq.trans (if_neg c23_8) (Eq.trans (if_neg c23_9) (Eq.trans (if_neg c23_10) (Eq.trans (if_neg c23_11) (Eq.trans (if_neg c23_12) (Eq.trans (if_pos c23_13) rfl))))))))
                exact ret (congrArg (fun z => mdW a cA z.1) eq9) (congrArg (fun z => z.2) eq9) hw dX8_look_132
              · refine sw_t K dX8_look_23 (k := 14) (tgt := 124) (by decide) (by decide) (fun c23_14 => ?_) (fun c23_14 => ?_)
                · refine lv_aload_n K.1 K.2.1 dX8_look_124 rfl (lv_at hl 0 rfl) ?_
                  refine gM_0_1 K hw kf_X8_7 dX8_look_125 ?_
                  refine lv_iload_n K.1 K.2.1 dX8_look_128 rfl (lv_at hl 1 rfl) ?_
                  refine lv_iconst (v := 4) K.1 K.2.1 dX8_look_129 (by decide) ?_
                  refine lv_isub K.1 K.2.1 dX8_look_130 ?_
                  refine lM_1 K hw (by first | (rw [c23_12]; exact vpD (by decide) (by decide)) | (rw [c23_13]; exact vpD (by decide) (by decide)) | (rw [c23_14]; exact vpD (by decide) (by decide))) rfl dX8_look_131 ?_
                  have eq9 : f_X8_look σ0 x1 = (σ, (σ.2.1 0 (Int32.toNatClampNeg (y1 - 4)))) := (by exact (Eq.trans e0 (Eq.trans (if_neg c23_8) (Eq.trans (if_neg c23_9) (Eq.trans (if_neg c23_10) (Eq.trans (if_neg c23_11) (Eq.trans (if_neg c23_12) (Eq.trans (if_neg c23_13) (Eq.trans (if_pos c23_14) rfl)))))))))
                  exact ret (congrArg (fun z => mdW a cA z.1) eq9) (congrArg (fun z => z.2) eq9) hw dX8_look_132
                · refine sw_t K dX8_look_23 (k := 15) (tgt := 133) (by decide) (by decide) (fun c23_15 => ?_) (fun c23_15 => ?_)
                  · refine lv_aload_n K.1 K.2.1 dX8_look_133 rfl (lv_at hl 0 rfl) ?_
                    refine gM_0_6 K hw kf_X8_88 dX8_look_134 ?_
                    have eq9 : f_X8_look σ0 x1 = (σ, (σ.1 6)) := (by exact (Eq.trans e0 (Eq.trans (if_neg c23_8) (Eq.trans (if_neg c23_9) (Eq.trans (if_neg c23_10) (Eq.trans (if_neg c23_11) (Eq.trans (if_neg c23_12) (Eq.trans (if_neg c23_13) (Eq.trans (if_neg c23_14) (Eq.trans (if_pos c23_15) rfl))))))))))
                    exact ret (congrArg (fun z => mdW a cA z.1) eq9) (congrArg (fun z => z.2) eq9) hw dX8_look_137
                  · refine sw_t K dX8_look_23 (k := 16) (tgt := 138) (by decide) (by decide) (fun c23_16 => ?_) (fun c23_16 => ?_)
                    · refine lv_aload_n K.1 K.2.1 dX8_look_138 rfl (lv_at hl 0 rfl) ?_
                      refine gM_0_1 K hw kf_X8_7 dX8_look_139 ?_
                      refine lv_bipush (v := 11) K.1 K.2.1 dX8_look_142 (by decide) ?_
                      refine lM_1 K hw (vi_11 (by decide)) cl_11 dX8_look_144 ?_
                      have eq9 : f_X8_look σ0 x1 = (σ, (σ.2.1 0 11)) := (by exact (Eq.trans e0 (Eq.trans (if_neg c23_8) (Eq.trans (if_neg c23_9) (Eq.trans (if_neg c23_10) (Eq.trans (if_neg c23_11) (Eq.trans (if_neg c23_12) (Eq.trans (if_neg c23_13) (Eq.trans (if_neg c23_14) (Eq.trans (if_neg c23_15) (Eq.trans (if_pos c23_16) rfl)))))))))))
                      exact ret (congrArg (fun z => mdW a cA z.1) eq9) (congrArg (fun z => z.2) eq9) hw dX8_look_145
                    · refine sw_t K dX8_look_23 (k := 17) (tgt := 146) (by decide) (by decide) (fun c23_17 => ?_) (fun c23_17 => ?_)
                      · refine lv_aload_n K.1 K.2.1 dX8_look_146 rfl (lv_at hl 0 rfl) ?_
                        refine gM_0_1 K hw kf_X8_7 dX8_look_147 ?_
                        refine lv_bipush (v := 12) K.1 K.2.1 dX8_look_150 (by decide) ?_
                        refine lM_1 K hw (vi_12 (by decide)) cl_12 dX8_look_152 ?_
                        have eq9 : f_X8_look σ0 x1 = (σ, (σ.2.1 0 12)) := (by exact (Eq.trans e0 (Eq.trans (if_neg c23_8) (Eq.trans (if_neg c23_9) (Eq.trans (if_neg c23_10) (Eq.trans (if_neg c23_11) (Eq.trans (if_neg c23_12) (Eq.trans (if_neg c23_13) (Eq.trans (if_neg c23_14) (Eq.trans (if_neg c23_15) (Eq.trans (if_neg c23_16) (Eq.trans (if_pos c23_17) rfl))))))))))))
                        exact ret (congrArg (fun z => mdW a cA z.1) eq9) (congrArg (fun z => z.2) eq9) hw dX8_look_153
                      · refine sw_t K dX8_look_23 (k := 18) (tgt := 154) (by decide) (by decide) (fun c23_18 => ?_) (fun c23_18 => ?_)
                        · refine lv_aload_n K.1 K.2.1 dX8_look_154 rfl (lv_at hl 0 rfl) ?_
                          refine gM_0_23 K hw kf_X8_100 dX8_look_155 ?_
                          have eq9 : f_X8_look σ0 x1 = (σ, (σ.1 23)) := (by exact (Eq.trans e0 (Eq.trans (if_neg c23_8) (Eq.trans (if_neg c23_9) (Eq.trans (if_neg c23_10) (Eq.trans (if_neg c23_11) (Eq.trans (if_neg c23_12) (Eq.trans (if_neg c23_13) (Eq.trans (if_neg c23_14) (Eq.trans (if_neg c23_15) (Eq.trans (if_neg c23_16) (Eq.trans (if_neg c23_17) (Eq.trans (if_pos c23_18) rfl)))))))))))))
                          exact ret (congrArg (fun z => mdW a cA z.1) eq9) (congrArg (fun z => z.2) eq9) hw dX8_look_158
                        · refine sw_t K dX8_look_23 (k := 19) (tgt := 159) (by decide) (by decide) (fun c23_19 => ?_) (fun c23_19 => ?_)
                          · refine lv_aload_n K.1 K.2.1 dX8_look_159 rfl (lv_at hl 0 rfl) ?_
                            refine gM_0_24 K hw kf_X8_97 dX8_look_160 ?_
                            refine lv_aload_n K.1 K.2.1 dX8_look_163 rfl (lv_at hl 0 rfl) ?_
                            refine gM_0_23 K hw kf_X8_100 dX8_look_164 ?_
                            refine lv_icmp_le (tgt := 174) K.1 K.2.1 dX8_look_167 (by decide) (fun c167 => ?_) (fun c167 => ?_)
                            · refine lv_iconst (v := 0) K.1 K.2.1 dX8_look_174 (by decide) ?_
                              have eq9 : f_X8_look σ0 x1 = (σ, 0) := (by exact (Eq.trans e0 (Eq.trans (if_neg c23_8) (Eq.trans (if_neg c23_9) (Eq.trans (if_neg c23_10) (Eq.trans (if_neg c23_11) (Eq.trans (if_neg c23_12) (Eq.trans (if_neg c23_13) (Eq.trans (if_neg c23_14) (Eq.trans (if_neg c23_15) (Eq.trans (if_neg c23_16) (Eq.trans (if_neg c23_17) (Eq.trans (if_neg c23_18) (Eq.trans (if_pos c23_19) (Eq.trans (if_pos c167) rfl)))))))))))))))
                              exact ret (congrArg (fun z => mdW a cA z.1) eq9) (congrArg (fun z => z.2) eq9) hw dX8_look_175
                            · refine lv_iconst (v := 1) K.1 K.2.1 dX8_look_170 (by decide) ?_
                              refine lv_goto (tgt := 175) K.1 K.2.1 dX8_look_171 (by decide) ?_
                              have eq9 : f_X8_look σ0 x1 = (σ, 1) := (by exact (Eq.trans e0 (Eq.trans (if_neg c23_8) (Eq.trans (if_neg c23_9) (Eq.trans (if_neg c23_10) (Eq.trans (if_neg c23_11) (Eq.trans (if_neg c23_12) (Eq.trans (if_neg c23_13) (Eq.trans (if_neg c23_14) (Eq.trans (if_neg c23_15) (Eq.trans (if_neg c23_16) (Eq.trans (if_neg c23_17) (Eq.trans (if_neg c23_18) (Eq.trans (if_pos c23_19) (Eq.trans (if_neg c167) rfl)))))))))))))))
                              exact ret (congrArg (fun z => mdW a cA z.1) eq9) (congrArg (fun z => z.2) eq9) hw dX8_look_175
                          · refine sw_t K dX8_look_23 (k := 20) (tgt := 176) (by decide) (by decide) (fun c23_20 => ?_) (fun c23_20 => ?_)
                            · refine lv_aload_n K.1 K.2.1 dX8_look_176 rfl (lv_at hl 0 rfl) ?_
                              refine gM_0_27 K hw kf_X8_94 dX8_look_177 ?_
                              have eq9 : f_X8_look σ0 x1 = (σ, (σ.1 27)) := (by exact (Eq.trans e0 (Eq.trans (if_neg c23_8) (Eq.trans (if_neg c23_9) (Eq.trans (if_neg c23_10) (Eq.trans (if_neg c23_11) (Eq.trans (if_neg c23_12) (Eq.trans (if_neg c23_13) (Eq.trans (if_neg c23_14) (Eq.trans (if_neg c23_15) (Eq.trans (if_neg c23_16) (Eq.trans (if_neg c23_17) (Eq.trans (if_neg c23_18) (Eq.trans (if_neg c23_19) (Eq.trans (if_pos c23_20) rfl)))))))))))))))
                              exact ret (congrArg (fun z => mdW a cA z.1) eq9) (congrArg (fun z => z.2) eq9) hw dX8_look_180
                            · refine sw_t K dX8_look_23 (k := 21) (tgt := 181) (by decide) (by decide) (fun c23_21 => ?_) (fun c23_21 => ?_)
                              · refine lv_aload_n K.1 K.2.1 dX8_look_181 rfl (lv_at hl 0 rfl) ?_
                                refine gM_0_29 K hw kf_X8_182 dX8_look_182 ?_
                                have eq9 : f_X8_look σ0 x1 = (σ, (σ.1 29)) := (by exact (Eq.trans e0 (Eq.trans (if_neg c23_8) (Eq.trans (if_neg c23_9) (Eq.trans (if_neg c23_10) (Eq.trans (if_neg c23_11) (Eq.trans (if_neg c23_12) (Eq.trans (if_neg c23_13) (Eq.trans (if_neg c23_14) (Eq.trans (if_neg c23_15) (Eq.trans (if_neg c23_16) (Eq.trans (if_neg c23_17) (Eq.trans (if_neg c23_18) (Eq.trans (if_neg c23_19) (Eq.trans (if_neg c23_20) (Eq.trans (if_pos c23_21) rfl))))))))))))))))
                                exact ret (congrArg (fun z => mdW a cA z.1) eq9) (congrArg (fun z => z.2) eq9) hw dX8_look_185
                              · refine sw_t K dX8_look_23 (k := 22) (tgt := 186) (by decide) (by decide) (fun c23_22 => ?_) (fun c23_22 => ?_)
                                · refine lv_aload_n K.1 K.2.1 dX8_look_186 rfl (lv_at hl 0 rfl) ?_
                                  refine gM_0_22 K hw kf_X8_191 dX8_look_187 ?_
                                  have eq9 : f_X8_look σ0 x1 = (σ, (σ.1 22)) := (by exact (Eq.trans e0 (Eq.trans (if_neg c23_8) (Eq.trans (if_neg c23_9) (Eq.trans (if_neg c23_10) (Eq.trans (if_neg c23_11) (Eq.trans (if_neg c23_12) (Eq.trans (if_neg c23_13) (Eq.trans (if_neg c23_14) (Eq.trans (if_neg c23_15) (Eq.trans (if_neg c23_16) (Eq.trans (if_neg c23_17) (Eq.trans (if_neg c23_18) (Eq.trans (if_neg c23_19) (Eq.trans (if_neg c23_20) (Eq.trans (if_neg c23_21) (Eq.trans (if_pos c23_22) rfl)))))))))))))))))
                                  exact ret (congrArg (fun z => mdW a cA z.1) eq9) (congrArg (fun z => z.2) eq9) hw dX8_look_190
                                · refine sw_t K dX8_look_23 (k := 23) (tgt := 191) (by decide) (by decide) (fun c23_23 => ?_) (fun c23_23 => ?_)
                                  · refine lv_aload_n K.1 K.2.1 dX8_look_191 rfl (lv_at hl 0 rfl) ?_
                                    refine gM_0_10 K hw kf_X8_143 dX8_look_192 ?_
                                    refine lv_if_le (tgt := 202) K.1 K.2.1 dX8_look_195 (by decide) (fun c195 => ?_) (fun c195 => ?_)
                                    · refine lv_iconst (v := 0) K.1 K.2.1 dX8_look_202 (by decide) ?_
                                      have eq9 : f_X8_look σ0 x1 = (σ, 0) := (by exact (Eq.trans e0 (Eq.trans (if_neg c23_8) (Eq.trans (if_neg c23_9) (Eq.trans (if_neg c23_10) (Eq.trans (if_neg c23_11) (Eq.trans (if_neg c23_12) (Eq.trans (if_neg c23_13) (Eq.trans (if_neg c23_14) (Eq.trans (if_neg c23_15) (Eq.trans (if_neg c23_16) (Eq.trans (if_neg c23_17) (Eq.trans (if_neg c23_18) (Eq.trans (if_neg c23_19) (Eq.trans (if_neg c23_20) (Eq.trans (if_neg c23_21) (Eq.trans (if_neg c23_22) (Eq.trans (if_pos c23_23) (Eq.trans (if_pos c195) rfl)))))))))))))))))))
                                      exact ret (congrArg (fun z => mdW a cA z.1) eq9) (congrArg (fun z => z.2) eq9) hw dX8_look_203
                                    · refine lv_iconst (v := 1) K.1 K.2.1 dX8_look_198 (by decide) ?_
                                      refine lv_goto (tgt := 203) K.1 K.2.1 dX8_look_199 (by decide) ?_
                                      have eq9 : f_X8_look σ0 x1 = (σ, 1) := (by exact (Eq.trans e0 (Eq.trans (if_neg c23_8) (Eq.trans (if_neg c23_9) (Eq.trans (if_neg c23_10) (Eq.trans (if_neg c23_11) (Eq.trans (if_neg c23_12) (Eq.trans (if_neg c23_13) (Eq.trans (if_neg c23_14) (Eq.trans (if_neg c23_15) (Eq.trans (if_neg c23_16) (Eq.trans (if_neg c23_17) (Eq.trans (if_neg c23_18) (Eq.trans (if_neg c23_19) (Eq.trans (if_neg c23_20) (Eq.trans (if_neg c23_21) (Eq.trans (if_neg c23_22) (Eq.trans (if_pos c23_23) (Eq.trans (if_neg c195) rfl)))))))))))))))))))
                                      exact ret (congrArg (fun z => mdW a cA z.1) eq9) (congrArg (fun z => z.2) eq9) hw dX8_look_203
                                  · refine sw_t K dX8_look_23 (k := 24) (tgt := 204) (by decide) (by decide) (fun c23_24 => ?_) (fun c23_24 => ?_)
                                    · refine lv_aload_n K.1 K.2.1 dX8_look_204 rfl (lv_at hl 0 rfl) ?_
                                      refine gM_0_24 K hw kf_X8_97 dX8_look_205 ?_
                                      refine lv_if_gt (tgt := 218) K.1 K.2.1 dX8_look_208 (by decide) (fun c208 => ?_) (fun c208 => ?_)
                                      · refine lv_iconst (v := 1) K.1 K.2.1 dX8_look_218 (by decide) ?_
                                        refine lv_goto (tgt := 223) K.1 K.2.1 dX8_look_219 (by decide) ?_
                                        have eq9 : f_X8_look σ0 x1 = (σ, 1) := (by exact (Eq.trans e0 (Eq.trans (if_neg c23_8) (Eq.trans (if_neg c23_9) (Eq.trans (if_neg c23_10) (Eq.trans (if_neg c23_11) (Eq.trans (if_neg c23_12) (Eq.trans (if_neg c23_13) (Eq.trans (if_neg c23_14) (Eq.trans (if_neg c23_15) (Eq.trans (if_neg c23_16) (Eq.trans (if_neg c23_17) (Eq.trans (if_neg c23_18) (Eq.trans (if_neg c23_19) (Eq.trans (if_neg c23_20) (Eq.trans (if_neg c23_21) (Eq.trans (if_neg c23_22) (Eq.trans (if_neg c23_23) (Eq.trans (if_pos c23_24) (Eq.trans (if_pos c208) rfl))))))))))))))))))))
                                        exact ret (congrArg (fun z => mdW a cA z.1) eq9) (congrArg (fun z => z.2) eq9) hw dX8_look_223
                                      · refine lv_aload_n K.1 K.2.1 dX8_look_211 rfl (lv_at hl 0 rfl) ?_
                                        refine gM_0_25 K hw kf_X8_103 dX8_look_212 ?_
                                        refine lv_if_eq (tgt := 222) K.1 K.2.1 dX8_look_215 (by decide) (fun c215 => ?_) (fun c215 => ?_)
                                        · refine lv_iconst (v := 0) K.1 K.2.1 dX8_look_222 (by decide) ?_
                                          have eq9 : f_X8_look σ0 x1 = (σ, 0) := (by exact (Eq.trans e0 (Eq.trans (if_neg c23_8) (Eq.trans (if_neg c23_9) (Eq.trans (if_neg c23_10) (Eq.trans (if_neg c23_11) (Eq.trans (if_neg c23_12) (Eq.trans (if_neg c23_13) (Eq.trans (if_neg c23_14) (Eq.trans (if_neg c23_15) (Eq.trans (if_neg c23_16) (Eq.trans (if_neg c23_17) (Eq.trans (if_neg c23_18) (Eq.trans (if_neg c23_19) (Eq.trans (if_neg c23_20) (Eq.trans (if_neg c23_21) (Eq.trans (if_neg c23_22) (Eq.trans (if_neg c23_23) (Eq.trans (if_pos c23_24) (Eq.trans (if_neg c208) (Eq.trans (if_pos c215) rfl)))))))))))))))))))))
                                          exact ret (congrArg (fun z => mdW a cA z.1) eq9) (congrArg (fun z => z.2) eq9) hw dX8_look_223
                                        · refine lv_iconst (v := 1) K.1 K.2.1 dX8_look_218 (by decide) ?_
                                          refine lv_goto (tgt := 223) K.1 K.2.1 dX8_look_219 (by decide) ?_
                                          have eq9 : f_X8_look σ0 x1 = (σ, 1) := (by exact (Eq.trans e0 (Eq.trans (if_neg c23_8) (Eq.trans (if_neg c23_9) (Eq.trans (if_neg c23_10) (Eq.trans (if_neg c23_11) (Eq.trans (if_neg c23_12) (Eq.trans (if_neg c23_13) (Eq.trans (if_neg c23_14) (Eq.trans (if_neg c23_15) (Eq.trans (if_neg c23_16) (Eq.trans (if_neg c23_17) (Eq.trans (if_neg c23_18) (Eq.trans (if_neg c23_19) (Eq.trans (if_neg c23_20) (Eq.trans (if_neg c23_21) (Eq.trans (if_neg c23_22) (Eq.trans (if_neg c23_23) (Eq.trans (if_pos c23_24) (Eq.trans (if_neg c208) (Eq.trans (if_neg c215) rfl)))))))))))))))))))))
                                          exact ret (congrArg (fun z => mdW a cA z.1) eq9) (congrArg (fun z => z.2) eq9) hw dX8_look_223
                                    · refine lv_tableOut (tgt := 224) K.1 K.2.1 dX8_look_23 (by have h0 := lv_neT c23_8 (a := 8) rfl; have h1 := lv_neT c23_9 (a := 9) rfl; have h2 := lv_neT c23_10 (a := 10) rfl; have h3 := lv_neT c23_11 (a := 11) rfl; have h4 := lv_neT c23_12 (a := 12) rfl; have h5 := lv_neT c23_13 (a := 13) rfl; have h6 := lv_neT c23_14 (a := 14) rfl; have h7 := lv_neT c23_15 (a := 15) rfl; have h8 := lv_neT c23_16 (a := 16) rfl; have h9 := lv_neT c23_17 (a := 17) rfl; have h10 := lv_neT c23_18 (a := 18) rfl; have h11 := lv_neT c23_19 (a := 19) rfl; have h12 := lv_neT c23_20 (a := 20) rfl; have h13 := lv_neT c23_21 (a := 21) rfl; have h14 := lv_neT c23_22 (a := 22) rfl; have h15 := lv_neT c23_23 (a := 23) rfl; have h16 := lv_neT c23_24 (a := 24) rfl; omega) (by decide) ?_
                                      refine lv_iconst (v := (-1)) K.1 K.2.1 dX8_look_224 (by decide) ?_
                                      have eq9 : f_X8_look σ0 x1 = (σ, (-1)) := (by exact (Eq.trans e0 (Eq.trans (if_neg c23_8) (Eq.trans (if_neg c23_9) (Eq.trans (if_neg c23_10) (Eq.trans (if_neg c23_11) (Eq.trans (if_neg c23_12) (Eq.trans (if_neg c23_13) (Eq.trans (if_neg c23_14) (Eq.trans (if_neg c23_15) (Eq.trans (if_neg c23_16) (Eq.trans (if_neg c23_17) (Eq.trans (if_neg c23_18) (Eq.trans (if_neg c23_19) (Eq.trans (if_neg c23_20) (Eq.trans (if_neg c23_21) (Eq.trans (if_neg c23_22) (Eq.trans (if_neg c23_23) (Eq.trans (if_neg c23_24) rfl)))))))))))))))))))
                                      exact ret (congrArg (fun z => mdW a cA z.1) eq9) (congrArg (fun z => z.2) eq9) hw dX8_look_225
  refine lv_aload_n K.1 K.2.1 dX8_look_0 rfl (lv_at hl 0 rfl) ?_
  refine lv_iconst (v := 0) K.1 K.2.1 dX8_look_1 (by decide) ?_
  refine pM_0_0 K hw kf_X8_39 dX8_look_2 (fun H locs hw => ?_)
  refine lv_iload_n K.1 K.2.1 dX8_look_5 rfl (lv_at hl 1 rfl) ?_
  refine lv_if_lt (tgt := 22) K.1 K.2.1 dX8_look_6 (by decide) (fun c6 => ?_) (fun c6 => ?_)
  · exact J22 _ _ _ _ _ hw (lv_sub hl [0, 1] rfl) (by exact (Eq.trans (if_pos c6) rfl))
  · refine lv_iload_n K.1 K.2.1 dX8_look_9 rfl (lv_at hl 1 rfl) ?_
    refine lv_bipush (v := 8) K.1 K.2.1 dX8_look_10 (by decide) ?_
    refine lv_icmp_ge (tgt := 22) K.1 K.2.1 dX8_look_12 (by decide) (fun c12 => ?_) (fun c12 => ?_)
    · exact J22 _ _ _ _ _ hw (lv_sub hl [0, 1] rfl) (by exact (Eq.trans (if_neg c6) (Eq.trans (if_pos c12) rfl)))
    · refine lv_aload_n K.1 K.2.1 dX8_look_15 rfl (lv_at hl 0 rfl) ?_
      refine gM_0_1 K hw kf_X8_7 dX8_look_16 ?_
      refine lv_iload_n K.1 K.2.1 dX8_look_19 rfl (lv_at hl 1 rfl) ?_
      refine lM_1 K hw (ixUp (nn0 c6) c12 (b := 8) rfl (by decide)) rfl dX8_look_20 ?_
      have eq9 : f_X8_look σ0 x1 = ((upS σ0 0 0), (σ0.2.1 0 (Int32.toNatClampNeg x1))) := (by exact (Eq.trans (if_neg c6) (Eq.trans (if_neg c12) rfl)))
      exact ret (congrArg (fun z => mdW a cA z.1) eq9) (congrArg (fun z => z.2) eq9) hw dX8_look_21
def f_X8_thrown (σ0 : PS) : Int32 := (σ0.1 0)
abbrev rm_X8_thrown : Room := { frames := 0, cells := 0, slots := 0, locals := 0 }
set_option maxHeartbeats 4000000 in
set_option maxRecDepth 100000 in
theorem c_X8_thrown (l : Launch) (D : va_G) (a : Nat → Nat) (cA : Nat → ClassId) (σ0 : PS) : CI l yX8_thrown cX8_thrown 1 .int rm_X8_thrown D (mdT cA) [.ref (a 0)] (mdW a cA σ0) (mdW a cA σ0) (f_X8_thrown σ0) := by
  refine en_i (by decide +kernel) (Nat.le_of_ble_eq_true rfl) rfl ?_
  intro p e s m args below meth c A ls Q K hw hl ret
  have hl : lv_has ls 1 [(0, .ref (a 0))] := hl
  refine lv_aload_n K.1 K.2.1 dX8_thrown_0 rfl (lv_at hl 0 rfl) ?_
  refine gM_0_0 K hw kf_X8_39 dX8_thrown_1 ?_
  exact ret rfl (by exact rfl) hw dX8_thrown_4
def g_X8_keep_18 : Nat → PS → Int32 → Int32 → PS × Int32
  | 0, σ, y1, y2 => (σ, 0)
  | n + 1, σ, y1, y2 => (if 53 ≤ y2 then ((upA σ 2 (Int32.toNatClampNeg y1) (vp_nar .boolean 1)), 1) else let x2_41 : Int32 := y2 + 1; (g_X8_keep_18 n (upA σ 1 (Int32.toNatClampNeg ((53 * y1) + y2)) (σ.2.1 0 (Int32.toNatClampNeg y2))) y1 x2_41))
def f_X8_keep (σ0 : PS) (x1 : Int32) : PS × Int32 := (if x1 < 0 then ((upS σ0 0 0), 0) else (if x1 ≤ 2 then (g_X8_keep_18 54 (upS σ0 0 0) x1 0) else ((upS σ0 0 0), 0)))
theorem pm_g_X8_keep_18 {n : Int} {k9 : Nat} {σ : PS} {y1 : Int32} {y2 : Int32} (hP : Pm n σ) : Pm n (g_X8_keep_18 k9 σ y1 y2).1 := by
  induction k9 generalizing σ y1 y2 with
  | zero => exact hP
  | succ k9 ih => exact (bxI2 (fun c21 => hP) (fun c21 => (ih hP)))
theorem pm_X8_keep {n : Int} {σ0 : PS} {x1 : Int32} (hP : Pm n σ0) : Pm (n) (f_X8_keep σ0 x1).1 := (bxI2 (fun c6 => hP) (fun c6 => (bxI2 (fun c11 => (pm_g_X8_keep_18 hP)) (fun c11 => hP))))
abbrev rm_X8_keep : Room := { frames := 0, cells := 0, slots := 0, locals := 0 }
theorem nz_g_X8_keep_18 {n : Nat} {σ : PS} {y1 : Int32} {y2 : Int32} : NZ (g_X8_keep_18 n σ y1 y2).2 := by
  induction n generalizing σ y1 y2 with
  | zero => exact nz0
  | succ n ih => exact (nzI2 nz1 ih)
theorem nz_X8_keep {σ0 : PS} {x1 : Int32} : NZ (f_X8_keep σ0 x1).2 := (nzI2 nz0 (nzI2 nz_g_X8_keep_18 nz0))
set_option maxHeartbeats 4000000 in
set_option maxRecDepth 100000 in
theorem c_X8_keep (l : Launch) (D : va_G) (a : Nat → Nat) (cA : Nat → ClassId) (σ0 : PS) (x1 : Int32) : CI l yX8_keep cX8_keep 3 .boolean rm_X8_keep D (mdT cA) [.ref (a 0), .int x1] (mdW a cA σ0) (mdW a cA (f_X8_keep σ0 x1).1) (f_X8_keep σ0 x1).2 := by
  refine en_i (by decide +kernel) (Nat.le_of_ble_eq_true rfl) nz_X8_keep ?_
  intro p e s m args below meth c A ls Q K hw hl ret
  have hl : lv_has ls 3 [(0, .ref (a 0)), (1, .int x1)] := hl
  have J18 : ∀ (n : Nat) (σ : PS) (y1 : Int32) (y2 : Int32) (H : Heap) (locs : List Loc) (ls : Array Slot), WD D A s.heap (mdW a cA σ) H locs → lv_has ls 3 [(0, .ref (a 0)), (1, .int y1), (2, .int y2)] → ((0 ≤ y2.toInt ∧ y2.toInt ≤ 53 ∧ 53 - y2.toInt < (n : Int)) ∧ 0 ≤ y1.toInt ∧ y1.toInt ≤ 2) → f_X8_keep σ0 x1 = g_X8_keep_18 n σ y1 y2 → W p l e rm_X8_keep s m args below meth c H locs 0 0 Q (F0 m 18 ls []) := by
    intro n
    induction n with
    | zero =>
      intro σ y1 y2 H locs ls hw hl hv e0
      exact absurd hv (by omega)
    | succ n ih =>
      intro σ y1 y2 H locs ls hw hl hv e0
      refine lv_iload_n K.1 K.2.1 dX8_keep_18 rfl (lv_at hl 2 rfl) ?_
      refine lv_bipush (v := 53) K.1 K.2.1 dX8_keep_19 (by decide) ?_
      refine lv_icmp_ge (tgt := 47) K.1 K.2.1 dX8_keep_21 (by decide) (fun c21 => ?_) (fun c21 => ?_)
      · refine lv_aload_n K.1 K.2.1 dX8_keep_47 rfl (lv_at hl 0 rfl) ?_
        refine gM_0_3 K hw kf_X8_16 dX8_keep_48 ?_
        refine lv_iload_n K.1 K.2.1 dX8_keep_51 rfl (lv_at hl 1 rfl) ?_
        refine lv_iconst (v := 1) K.1 K.2.1 dX8_keep_52 (by decide) ?_
        refine sM_3 K hw (vB2 3 hv.2 (by decide)) rfl dX8_keep_53 (fun H locs hw => ?_)
        refine lv_iconst (v := 1) K.1 K.2.1 dX8_keep_54 (by decide) ?_
        have eq9 : f_X8_keep σ0 x1 = ((upA σ 2 (Int32.toNatClampNeg y1) (vp_nar .boolean 1)), 1) := (by exact (Eq.trans e0 (Eq.trans (if_pos c21) rfl)))
        exact ret (congrArg (fun z => mdW a cA z.1) eq9) (congrArg (fun z => z.2) eq9) hw dX8_keep_55
      · refine lv_aload_n K.1 K.2.1 dX8_keep_24 rfl (lv_at hl 0 rfl) ?_
        refine gM_0_2 K hw kf_X8_13 dX8_keep_25 ?_
        refine lv_bipush (v := 53) K.1 K.2.1 dX8_keep_28 (by decide) ?_
        refine lv_iload_n K.1 K.2.1 dX8_keep_30 rfl (lv_at hl 1 rfl) ?_
        refine lv_imul K.1 K.2.1 dX8_keep_31 ?_
        refine lv_iload_n K.1 K.2.1 dX8_keep_32 rfl (lv_at hl 2 rfl) ?_
        refine lv_iadd K.1 K.2.1 dX8_keep_33 ?_
        refine lv_aload_n K.1 K.2.1 dX8_keep_34 rfl (lv_at hl 0 rfl) ?_
        refine gM_0_1 K hw kf_X8_7 dX8_keep_35 ?_
        refine lv_iload_n K.1 K.2.1 dX8_keep_38 rfl (lv_at hl 2 rfl) ?_
        refine lM_1 K hw (ixUp hv.1.1 c21 (b := 53) rfl (by decide)) rfl dX8_keep_39 ?_
        refine sM_2 K hw (kIx hv.2 hv.1.1 c21) rfl dX8_keep_40 (fun H locs hw => ?_)
        obtain ⟨x2_41, ex2_41⟩ : ∃ z9 : Int32, z9 = y2 + 1 := ⟨_, rfl⟩
        refine lv_iinc (v := x2_41) (lv' := [(2, .int x2_41), (0, .ref (a 0)), (1, .int y1)]) K.1 K.2.1 dX8_keep_41 hl (k := 2) rfl (by rw [ex2_41]; rfl) (by decide) rfl (fun ls hl => ?_)
        refine lv_goto (tgt := 18) K.1 K.2.1 dX8_keep_44 (by decide) ?_
        exact ih _ _ _ _ _ _ hw (lv_sub hl [1, 2, 0] rfl) ⟨stepUp hv.1 c21 ex2_41 rfl (by decide), hv.2⟩ (by subst ex2_41; exact (Eq.trans e0 (Eq.trans (if_neg c21) rfl)))
  refine lv_aload_n K.1 K.2.1 dX8_keep_0 rfl (lv_at hl 0 rfl) ?_
  refine lv_iconst (v := 0) K.1 K.2.1 dX8_keep_1 (by decide) ?_
  refine pM_0_0 K hw kf_X8_39 dX8_keep_2 (fun H locs hw => ?_)
  refine lv_iload_n K.1 K.2.1 dX8_keep_5 rfl (lv_at hl 1 rfl) ?_
  refine lv_if_lt (tgt := 14) K.1 K.2.1 dX8_keep_6 (by decide) (fun c6 => ?_) (fun c6 => ?_)
  · refine lv_iconst (v := 0) K.1 K.2.1 dX8_keep_14 (by decide) ?_
    have eq9 : f_X8_keep σ0 x1 = ((upS σ0 0 0), 0) := (by exact (Eq.trans (if_pos c6) rfl))
    exact ret (congrArg (fun z => mdW a cA z.1) eq9) (congrArg (fun z => z.2) eq9) hw dX8_keep_15
  · refine lv_iload_n K.1 K.2.1 dX8_keep_9 rfl (lv_at hl 1 rfl) ?_
    refine lv_iconst (v := 2) K.1 K.2.1 dX8_keep_10 (by decide) ?_
    refine lv_icmp_le (tgt := 16) K.1 K.2.1 dX8_keep_11 (by decide) (fun c11 => ?_) (fun c11 => ?_)
    · refine lv_iconst (v := 0) K.1 K.2.1 dX8_keep_16 (by decide) ?_
      refine lv_istore_n (lv' := [(2, .int 0), (0, .ref (a 0)), (1, .int x1)]) K.1 K.2.1 dX8_keep_17 rfl hl (by decide) rfl (fun ls hl => ?_)
      exact J18 54 _ _ _ _ _ _ hw (lv_sub hl [1, 2, 0] rfl) ⟨by decide, le3 c6 c11 rfl⟩ (by exact (Eq.trans (if_neg c6) (Eq.trans (if_pos c11) rfl)))
    · refine lv_iconst (v := 0) K.1 K.2.1 dX8_keep_14 (by decide) ?_
      have eq9 : f_X8_keep σ0 x1 = ((upS σ0 0 0), 0) := (by exact (Eq.trans (if_neg c6) (Eq.trans (if_neg c11) rfl)))
      exact ret (congrArg (fun z => mdW a cA z.1) eq9) (congrArg (fun z => z.2) eq9) hw dX8_keep_15
def g_X8_bring_40 : Nat → PS → Int32 → Int32 → PS × Int32
  | 0, σ, y1, y2 => (σ, 0)
  | n + 1, σ, y1, y2 => (if 53 ≤ y2 then let s117 : PS := f_X8_setX (upA (upA σ 0 2 (f_X8_within (Int32.toInt64 (σ.2.1 0 2)) (σ.1 7))) 0 3 (f_X8_within (Int32.toInt64 (σ.2.1 0 3)) (σ.1 7))) (Int32.toInt64 (σ.2.1 0 0)); let s128 : PS := f_X8_setY s117 (Int32.toInt64 (s117.2.1 0 1)); (s128, 1) else let x2_63 : Int32 := y2 + 1; (g_X8_bring_40 n (upA σ 0 (Int32.toNatClampNeg y2) (σ.2.1 1 (Int32.toNatClampNeg ((53 * y1) + y2)))) y1 x2_63))
def f_X8_bring (σ0 : PS) (x1 : Int32) : PS × Int32 := (if x1 < 0 then ((upS σ0 0 0), 0) else (if 2 < x1 then ((upS σ0 0 0), 0) else (if x1 < 0 then (if (σ0.2.1 2 0) = 0 then ((upS σ0 0 0), 0) else (g_X8_bring_40 54 (upS σ0 0 0) x1 0)) else (if x1 ≤ 2 then (if (σ0.2.1 2 (Int32.toNatClampNeg x1)) = 0 then ((upS σ0 0 0), 0) else (g_X8_bring_40 54 (upS σ0 0 0) x1 0)) else (if (σ0.2.1 2 0) = 0 then ((upS σ0 0 0), 0) else (g_X8_bring_40 54 (upS σ0 0 0) x1 0))))))
theorem pm_g_X8_bring_40 {n : Int} {k9 : Nat} {σ : PS} {y1 : Int32} {y2 : Int32} (hP : Pm n σ) : Pm n (g_X8_bring_40 k9 σ y1 y2).1 := by
  induction k9 generalizing σ y1 y2 with
  | zero => exact hP
  | succ k9 ih => exact (bxI2 (fun c43 => (pm_X8_setY (pm_X8_setX hP))) (fun c43 => (ih hP)))
theorem pm_X8_bring {n : Int} {σ0 : PS} {x1 : Int32} (hP : Pm n σ0) : Pm (n) (f_X8_bring σ0 x1).1 := (bxI2 (fun c6 => hP) (fun c6 => (bxI2 (fun c11 => hP) (fun c11 => (bxI2 (fun c19 => (bxI2 (fun c33 => hP) (fun c33 => (pm_g_X8_bring_40 hP)))) (fun c19 => (bxI2 (fun c24 => (bxI2 (fun c33 => hP) (fun c33 => (pm_g_X8_bring_40 hP)))) (fun c24 => (bxI2 (fun c33 => hP) (fun c33 => (pm_g_X8_bring_40 hP)))))))))))
abbrev rm_X8_bring : Room := { frames := 2, cells := 0, slots := 0, locals := 44 }
theorem nz_g_X8_bring_40 {n : Nat} {σ : PS} {y1 : Int32} {y2 : Int32} : NZ (g_X8_bring_40 n σ y1 y2).2 := by
  induction n generalizing σ y1 y2 with
  | zero => exact nz0
  | succ n ih => exact (nzI2 nz1 ih)
theorem nz_X8_bring {σ0 : PS} {x1 : Int32} : NZ (f_X8_bring σ0 x1).2 := (nzI2 nz0 (nzI2 nz0 (nzI2 (nzI2 nz0 nz_g_X8_bring_40) (nzI2 (nzI2 nz0 nz_g_X8_bring_40) (nzI2 nz0 nz_g_X8_bring_40)))))
set_option maxHeartbeats 4000000 in
set_option maxRecDepth 100000 in
theorem c_X8_bring (l : Launch) (D : va_G) (a : Nat → Nat) (cA : Nat → ClassId) (σ0 : PS) (x1 : Int32) : CI l yX8_bring cX8_bring 3 .boolean rm_X8_bring D (mdT cA) [.ref (a 0), .int x1] (mdW a cA σ0) (mdW a cA (f_X8_bring σ0 x1).1) (f_X8_bring σ0 x1).2 := by
  refine en_i (by decide +kernel) (Nat.le_of_ble_eq_true rfl) nz_X8_bring ?_
  intro p e s m args below meth c A ls Q K hw hl ret
  have hl : lv_has ls 3 [(0, .ref (a 0)), (1, .int x1)] := hl
  have J40 : ∀ (n : Nat) (σ : PS) (y1 : Int32) (y2 : Int32) (H : Heap) (locs : List Loc) (ls : Array Slot), WD D A s.heap (mdW a cA σ) H locs → lv_has ls 3 [(0, .ref (a 0)), (1, .int y1), (2, .int y2)] → ((0 ≤ y2.toInt ∧ y2.toInt ≤ 53 ∧ 53 - y2.toInt < (n : Int)) ∧ 0 ≤ y1.toInt ∧ y1.toInt ≤ 2) → f_X8_bring σ0 x1 = g_X8_bring_40 n σ y1 y2 → W p l e rm_X8_bring s m args below meth c H locs 0 0 Q (F0 m 40 ls []) := by
    intro n
    induction n with
    | zero =>
      intro σ y1 y2 H locs ls hw hl hv e0
      exact absurd hv (by omega)
    | succ n ih =>
      intro σ y1 y2 H locs ls hw hl hv e0
      refine lv_iload_n K.1 K.2.1 dX8_bring_40 rfl (lv_at hl 2 rfl) ?_
      refine lv_bipush (v := 53) K.1 K.2.1 dX8_bring_41 (by decide) ?_
      refine lv_icmp_ge (tgt := 69) K.1 K.2.1 dX8_bring_43 (by decide) (fun c43 => ?_) (fun c43 => ?_)
      · refine lv_aload_n K.1 K.2.1 dX8_bring_69 rfl (lv_at hl 0 rfl) ?_
        refine gM_0_1 K hw kf_X8_7 dX8_bring_70 ?_
        refine lv_iconst (v := 2) K.1 K.2.1 dX8_bring_73 (by decide) ?_
        refine lv_aload_n K.1 K.2.1 dX8_bring_74 rfl (lv_at hl 0 rfl) ?_
        refine gM_0_1 K hw kf_X8_7 dX8_bring_75 ?_
        refine lv_iconst (v := 2) K.1 K.2.1 dX8_bring_78 (by decide) ?_
        refine lM_1 K hw (vi_2 (by decide)) cl_2 dX8_bring_79 ?_
        refine lv_i2l K.1 K.2.1 dX8_bring_80 rfl ?_
        refine lv_aload_n K.1 K.2.1 dX8_bring_81 rfl (lv_at hl 0 rfl) ?_
        refine gM_0_7 K hw kf_X8_64 dX8_bring_82 ?_
        refine caS K hw (c_X8_within l D a cA _ _ _) hl.1 km_X8_70 kS_X8_within ki_X8 kC_X8_within (na := 2) rfl (by decide +kernel) ⟨rfl, rfl⟩ (by decide) ⟨Nat.zero_le _, Nat.zero_le _⟩ rfl (Nat.le_of_ble_eq_true rfl) dX8_bring_85 (fun H locs hw => ?_)
        refine sM_1 K hw (vi_2 (by decide)) cl_2 dX8_bring_88 (fun H locs hw => ?_)
        refine lv_aload_n K.1 K.2.1 dX8_bring_89 rfl (lv_at hl 0 rfl) ?_
        refine gM_0_1 K hw kf_X8_7 dX8_bring_90 ?_
        refine lv_iconst (v := 3) K.1 K.2.1 dX8_bring_93 (by decide) ?_
        refine lv_aload_n K.1 K.2.1 dX8_bring_94 rfl (lv_at hl 0 rfl) ?_
        refine gM_0_1 K hw kf_X8_7 dX8_bring_95 ?_
        refine lv_iconst (v := 3) K.1 K.2.1 dX8_bring_98 (by decide) ?_
        refine lM_1 K hw (vi_3 (by decide)) cl_3 dX8_bring_99 ?_
        refine lv_i2l K.1 K.2.1 dX8_bring_100 rfl ?_
        refine lv_aload_n K.1 K.2.1 dX8_bring_101 rfl (lv_at hl 0 rfl) ?_
        refine gM_0_7 K hw kf_X8_64 dX8_bring_102 ?_
        refine caS K hw (c_X8_within l D a cA _ _ _) hl.1 km_X8_70 kS_X8_within ki_X8 kC_X8_within (na := 2) rfl (by decide +kernel) ⟨rfl, rfl⟩ (by decide) ⟨Nat.zero_le _, Nat.zero_le _⟩ rfl (Nat.le_of_ble_eq_true rfl) dX8_bring_105 (fun H locs hw => ?_)
        refine sM_1 K hw (vi_3 (by decide)) cl_3 dX8_bring_108 (fun H locs hw => ?_)
        refine lv_aload_n K.1 K.2.1 dX8_bring_109 rfl (lv_at hl 0 rfl) ?_
        refine lv_aload_n K.1 K.2.1 dX8_bring_110 rfl (lv_at hl 0 rfl) ?_
        refine gM_0_1 K hw kf_X8_7 dX8_bring_111 ?_
        refine lv_iconst (v := 0) K.1 K.2.1 dX8_bring_114 (by decide) ?_
        refine lM_1 K hw (vi_0 (by decide)) cl_0 dX8_bring_115 ?_
        refine lv_i2l K.1 K.2.1 dX8_bring_116 rfl ?_
        refine caV K hw (c_X8_setX l D a cA _ _) hl.1 (tt_V km_X8_77 kI_X8_setX ks_X8_setX ki_X8 kC_X8_setX) 0 (ci := 8) rfl rfl rfl (na := 1) rfl (by decide +kernel) ⟨rfl, rfl⟩ (by decide) ⟨Nat.zero_le _, Nat.zero_le _⟩ rfl (Nat.le_of_ble_eq_true rfl) dX8_bring_117 (fun H locs hw => ?_)
        obtain ⟨s117, es117, hw⟩ := nmM hw
        refine lv_aload_n K.1 K.2.1 dX8_bring_120 rfl (lv_at hl 0 rfl) ?_
        refine lv_aload_n K.1 K.2.1 dX8_bring_121 rfl (lv_at hl 0 rfl) ?_
        refine gM_0_1 K hw kf_X8_7 dX8_bring_122 ?_
        refine lv_iconst (v := 1) K.1 K.2.1 dX8_bring_125 (by decide) ?_
        refine lM_1 K hw (vi_1 (by decide)) cl_1 dX8_bring_126 ?_
        refine lv_i2l K.1 K.2.1 dX8_bring_127 rfl ?_
        refine caV K hw (c_X8_setY l D a cA _ _) hl.1 (tt_V km_X8_85 kI_X8_setY ks_X8_setY ki_X8 kC_X8_setY) 0 (ci := 8) rfl rfl rfl (na := 1) rfl (by decide +kernel) ⟨rfl, rfl⟩ (by decide) ⟨Nat.zero_le _, Nat.zero_le _⟩ rfl (Nat.le_of_ble_eq_true rfl) dX8_bring_128 (fun H locs hw => ?_)
        obtain ⟨s128, es128, hw⟩ := nmM hw
        refine lv_iconst (v := 1) K.1 K.2.1 dX8_bring_131 (by decide) ?_
        have eq9 : f_X8_bring σ0 x1 = (s128, 1) := (by subst es128 es117; exact (Eq.trans e0 (Eq.trans (if_pos c43) rfl)))
        exact ret (congrArg (fun z => mdW a cA z.1) eq9) (congrArg (fun z => z.2) eq9) hw dX8_bring_132
      · refine lv_aload_n K.1 K.2.1 dX8_bring_46 rfl (lv_at hl 0 rfl) ?_
        refine gM_0_1 K hw kf_X8_7 dX8_bring_47 ?_
        refine lv_iload_n K.1 K.2.1 dX8_bring_50 rfl (lv_at hl 2 rfl) ?_
        refine lv_aload_n K.1 K.2.1 dX8_bring_51 rfl (lv_at hl 0 rfl) ?_
        refine gM_0_2 K hw kf_X8_13 dX8_bring_52 ?_
        refine lv_bipush (v := 53) K.1 K.2.1 dX8_bring_55 (by decide) ?_
        refine lv_iload_n K.1 K.2.1 dX8_bring_57 rfl (lv_at hl 1 rfl) ?_
        refine lv_imul K.1 K.2.1 dX8_bring_58 ?_
        refine lv_iload_n K.1 K.2.1 dX8_bring_59 rfl (lv_at hl 2 rfl) ?_
        refine lv_iadd K.1 K.2.1 dX8_bring_60 ?_
        refine lM_2 K hw (kIx hv.2 hv.1.1 c43) rfl dX8_bring_61 ?_
        refine sM_1 K hw (ixUp hv.1.1 c43 (b := 53) rfl (by decide)) rfl dX8_bring_62 (fun H locs hw => ?_)
        obtain ⟨x2_63, ex2_63⟩ : ∃ z9 : Int32, z9 = y2 + 1 := ⟨_, rfl⟩
        refine lv_iinc (v := x2_63) (lv' := [(2, .int x2_63), (0, .ref (a 0)), (1, .int y1)]) K.1 K.2.1 dX8_bring_63 hl (k := 2) rfl (by rw [ex2_63]; rfl) (by decide) rfl (fun ls hl => ?_)
        refine lv_goto (tgt := 40) K.1 K.2.1 dX8_bring_66 (by decide) ?_
        exact ih _ _ _ _ _ _ hw (lv_sub hl [1, 2, 0] rfl) ⟨stepUp hv.1 c43 ex2_63 rfl (by decide), hv.2⟩ (by subst ex2_63; exact (Eq.trans e0 (Eq.trans (if_neg c43) rfl)))
  refine lv_aload_n K.1 K.2.1 dX8_bring_0 rfl (lv_at hl 0 rfl) ?_
  refine lv_iconst (v := 0) K.1 K.2.1 dX8_bring_1 (by decide) ?_
  refine pM_0_0 K hw kf_X8_39 dX8_bring_2 (fun H locs hw => ?_)
  refine lv_iload_n K.1 K.2.1 dX8_bring_5 rfl (lv_at hl 1 rfl) ?_
  refine lv_if_lt (tgt := 36) K.1 K.2.1 dX8_bring_6 (by decide) (fun c6 => ?_) (fun c6 => ?_)
  · refine lv_iconst (v := 0) K.1 K.2.1 dX8_bring_36 (by decide) ?_
    have eq9 : f_X8_bring σ0 x1 = ((upS σ0 0 0), 0) := (by exact (Eq.trans (if_pos c6) rfl))
    exact ret (congrArg (fun z => mdW a cA z.1) eq9) (congrArg (fun z => z.2) eq9) hw dX8_bring_37
  · refine lv_iload_n K.1 K.2.1 dX8_bring_9 rfl (lv_at hl 1 rfl) ?_
    refine lv_iconst (v := 2) K.1 K.2.1 dX8_bring_10 (by decide) ?_
    refine lv_icmp_gt (tgt := 36) K.1 K.2.1 dX8_bring_11 (by decide) (fun c11 => ?_) (fun c11 => ?_)
    · refine lv_iconst (v := 0) K.1 K.2.1 dX8_bring_36 (by decide) ?_
      have eq9 : f_X8_bring σ0 x1 = ((upS σ0 0 0), 0) := (by exact (Eq.trans (if_neg c6) (Eq.trans (if_pos c11) rfl)))
      exact ret (congrArg (fun z => mdW a cA z.1) eq9) (congrArg (fun z => z.2) eq9) hw dX8_bring_37
    · refine lv_aload_n K.1 K.2.1 dX8_bring_14 rfl (lv_at hl 0 rfl) ?_
      refine gM_0_3 K hw kf_X8_16 dX8_bring_15 ?_
      refine lv_iload_n K.1 K.2.1 dX8_bring_18 rfl (lv_at hl 1 rfl) ?_
      refine lv_if_lt (tgt := 27) K.1 K.2.1 dX8_bring_19 (by decide) (fun c19 => ?_) (fun c19 => ?_)
      · refine lv_iconst (v := 0) K.1 K.2.1 dX8_bring_27 (by decide) ?_
        refine lv_goto (tgt := 32) K.1 K.2.1 dX8_bring_28 (by decide) ?_
        refine lM_3 K hw (vi_0 (by decide)) cl_0 dX8_bring_32 ?_
        refine lv_if_ne (tgt := 38) K.1 K.2.1 dX8_bring_33 (by decide) (fun c33 => ?_) (fun c33 => ?_)
        · refine lv_iconst (v := 0) K.1 K.2.1 dX8_bring_38 (by decide) ?_
          refine lv_istore_n (lv' := [(2, .int 0), (0, .ref (a 0)), (1, .int x1)]) K.1 K.2.1 dX8_bring_39 rfl hl (by decide) rfl (fun ls hl => ?_)
          exact J40 54 _ _ _ _ _ _ hw (lv_sub hl [1, 2, 0] rfl) ⟨by decide, rg1 c6 c11 rfl⟩ (by exact (Eq.trans (if_neg c6) (Eq.trans (if_neg c11) (Eq.trans (if_pos c19) (Eq.trans (if_neg c33) rfl)))))
        · refine lv_iconst (v := 0) K.1 K.2.1 dX8_bring_36 (by decide) ?_
          have eq9 : f_X8_bring σ0 x1 = ((upS σ0 0 0), 0) := (by exact (Eq.trans (if_neg c6) (Eq.trans (if_neg c11) (Eq.trans (if_pos c19) (Eq.trans (if_pos c33) rfl)))))
          exact ret (congrArg (fun z => mdW a cA z.1) eq9) (congrArg (fun z => z.2) eq9) hw dX8_bring_37
      · refine lv_iload_n K.1 K.2.1 dX8_bring_22 rfl (lv_at hl 1 rfl) ?_
        refine lv_iconst (v := 2) K.1 K.2.1 dX8_bring_23 (by decide) ?_
        refine lv_icmp_le (tgt := 31) K.1 K.2.1 dX8_bring_24 (by decide) (fun c24 => ?_) (fun c24 => ?_)
        · refine lv_iload_n K.1 K.2.1 dX8_bring_31 rfl (lv_at hl 1 rfl) ?_
          refine lM_3 K hw (by first | exact vB2 3 (rg1 c6 c11 (b := 2) rfl) (by decide) | exact vi_0 (by decide)) rfl dX8_bring_32 ?_
          refine lv_if_ne (tgt := 38) K.1 K.2.1 dX8_bring_33 (by decide) (fun c33 => ?_) (fun c33 => ?_)
          · refine lv_iconst (v := 0) K.1 K.2.1 dX8_bring_38 (by decide) ?_
            refine lv_istore_n (lv' := [(2, .int 0), (0, .ref (a 0)), (1, .int x1)]) K.1 K.2.1 dX8_bring_39 rfl hl (by decide) rfl (fun ls hl => ?_)
            exact J40 54 _ _ _ _ _ _ hw (lv_sub hl [1, 2, 0] rfl) ⟨by decide, rg1 c6 c11 rfl⟩ (by exact (Eq.trans (if_neg c6) (Eq.trans (if_neg c11) (Eq.trans (if_neg c19) (Eq.trans (if_pos c24) (Eq.trans (if_neg c33) rfl))))))
          · refine lv_iconst (v := 0) K.1 K.2.1 dX8_bring_36 (by decide) ?_
            have eq9 : f_X8_bring σ0 x1 = ((upS σ0 0 0), 0) := (by exact (Eq.trans (if_neg c6) (Eq.trans (if_neg c11) (Eq.trans (if_neg c19) (Eq.trans (if_pos c24) (Eq.trans (if_pos c33) rfl))))))
            exact ret (congrArg (fun z => mdW a cA z.1) eq9) (congrArg (fun z => z.2) eq9) hw dX8_bring_37
        · refine lv_iconst (v := 0) K.1 K.2.1 dX8_bring_27 (by decide) ?_
          refine lv_goto (tgt := 32) K.1 K.2.1 dX8_bring_28 (by decide) ?_
          refine lM_3 K hw (vi_0 (by decide)) cl_0 dX8_bring_32 ?_
          refine lv_if_ne (tgt := 38) K.1 K.2.1 dX8_bring_33 (by decide) (fun c33 => ?_) (fun c33 => ?_)
          · refine lv_iconst (v := 0) K.1 K.2.1 dX8_bring_38 (by decide) ?_
            refine lv_istore_n (lv' := [(2, .int 0), (0, .ref (a 0)), (1, .int x1)]) K.1 K.2.1 dX8_bring_39 rfl hl (by decide) rfl (fun ls hl => ?_)
            exact J40 54 _ _ _ _ _ _ hw (lv_sub hl [1, 2, 0] rfl) ⟨by decide, rg1 c6 c11 rfl⟩ (by exact (Eq.trans (if_neg c6) (Eq.trans (if_neg c11) (Eq.trans (if_neg c19) (Eq.trans (if_neg c24) (Eq.trans (if_neg c33) rfl))))))
          · refine lv_iconst (v := 0) K.1 K.2.1 dX8_bring_36 (by decide) ?_
            have eq9 : f_X8_bring σ0 x1 = ((upS σ0 0 0), 0) := (by exact (Eq.trans (if_neg c6) (Eq.trans (if_neg c11) (Eq.trans (if_neg c19) (Eq.trans (if_neg c24) (Eq.trans (if_pos c33) rfl))))))
            exact ret (congrArg (fun z => mdW a cA z.1) eq9) (congrArg (fun z => z.2) eq9) hw dX8_bring_37
