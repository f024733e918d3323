def f_X7_within (x0 : Int64) (x2 : Int32) (x3 : Int32) : Int32 := (if (Int32.toInt64 x2) ≤ x0 then (if x0 ≤ (Int32.toInt64 x3) then (Int64.toInt32 x0) else x3) else x2)
abbrev rm_X7_within : Room := { frames := 0, cells := 0, slots := 0, locals := 0 }
set_option maxHeartbeats 4000000 in
set_option maxRecDepth 100000 in
theorem c_X7_within (l : Launch) (D : va_G) (a : Nat → Nat) (cA : Nat → ClassId) (σ0 : PS) (x0 : Int64) (x2 : Int32) (x3 : Int32) : CI l yX7_within cX7_within 4 .int rm_X7_within D (pdT cA) [.long x0, .int x2, .int x3] (pdW a cA σ0) (pdW a cA σ0) (f_X7_within x0 x2 x3) := by
  refine en_i (by decide +kernel) (Nat.le_of_ble_eq_true rfl) rfl ?_
  intro p e s m args below meth c A ls Q K hw hl ret
  have hl : lv_has ls 4 [(0, .long x0), (2, .int x2), (3, .int x3)] := hl
  refine lv_lload_n K.1 K.2.1 dX7_within_0 rfl (lv_at hl 0 rfl) ?_
  refine lv_iload_n K.1 K.2.1 dX7_within_1 rfl (lv_at hl 1 rfl) ?_
  refine lv_i2l K.1 K.2.1 dX7_within_2 rfl ?_
  refine lc_ge (tgt := 9) K dX7_within_3 dX7_within_4 (by decide) (fun c3 => ?_) (fun c3 => ?_)
  · refine lv_lload_n K.1 K.2.1 dX7_within_9 rfl (lv_at hl 0 rfl) ?_
    refine lv_iload_n K.1 K.2.1 dX7_within_10 rfl (lv_at hl 2 rfl) ?_
    refine lv_i2l K.1 K.2.1 dX7_within_11 rfl ?_
    refine lc_le (tgt := 20) K dX7_within_12 dX7_within_13 (by decide) (fun c12 => ?_) (fun c12 => ?_)
    · refine lv_lload_n K.1 K.2.1 dX7_within_20 rfl (lv_at hl 0 rfl) ?_
      refine lv_l2i K.1 K.2.1 dX7_within_21 rfl ?_
      exact ret rfl (by exact (Eq.trans (if_pos c3) (Eq.trans (if_pos c12) rfl))) hw dX7_within_22
    · refine lv_iload_n K.1 K.2.1 dX7_within_16 rfl (lv_at hl 2 rfl) ?_
      refine lv_goto (tgt := 22) K.1 K.2.1 dX7_within_17 (by decide) ?_
      exact ret rfl (by exact (Eq.trans (if_pos c3) (Eq.trans (if_neg c12) rfl))) hw dX7_within_22
  · refine lv_iload_n K.1 K.2.1 dX7_within_7 rfl (lv_at hl 1 rfl) ?_
    exact ret rfl (by exact (Eq.trans (if_neg c3) rfl)) hw dX7_within_8
def f_X7_setX (σ0 : PS) (x1 : Int64) : PS := (upS σ0 24 (f_X7_within x1 0 (σ0.1 16)))
theorem bx_X7_setX {σ0 : PS} {x1 : Int64} (hI : Bx σ0) : Bx (f_X7_setX σ0 x1) := (bxS_24 hI)
abbrev rm_X7_setX : Room := { frames := 1, cells := 0, slots := 0, locals := 23 }
set_option maxHeartbeats 4000000 in
set_option maxRecDepth 100000 in
theorem c_X7_setX (l : Launch) (D : va_G) (a : Nat → Nat) (cA : Nat → ClassId) (σ0 : PS) (x1 : Int64) : CV l yX7_setX cX7_setX 3 rm_X7_setX D (pdT cA) [.ref (a 0), .long x1] (pdW a cA σ0) (pdW a cA (f_X7_setX σ0 x1)) := by
  refine en_v (by decide +kernel) (Nat.le_of_ble_eq_true rfl) ?_
  intro p e s m args below meth c A ls Q K hw hl ret
  have hl : lv_has ls 3 [(0, .ref (a 0)), (1, .long x1)] := hl
  refine lv_aload_n K.1 K.2.1 dX7_setX_0 rfl (lv_at hl 0 rfl) ?_
  refine gD_0_2 K hw kf_X7_26 dX7_setX_1 ?_
  refine lv_lload_n K.1 K.2.1 dX7_setX_4 rfl (lv_at hl 1 rfl) ?_
  refine lv_iconst (v := 0) K.1 K.2.1 dX7_setX_5 (by decide) ?_
  refine lv_aload_n K.1 K.2.1 dX7_setX_6 rfl (lv_at hl 0 rfl) ?_
  refine gD_0_1 K hw kf_X7_19 dX7_setX_7 ?_
  refine gD_2_3 K hw kf_X7_95 dX7_setX_10 ?_
  refine caS K hw (c_X7_within l D a cA _ _ _ _) hl.1 km_X7_98 kS_X7_within ki_X7 kC_X7_within (na := 3) rfl (by decide +kernel) ⟨rfl, rfl⟩ (by decide) ⟨Nat.zero_le _, Nat.zero_le _⟩ rfl (Nat.le_of_ble_eq_true rfl) dX7_setX_13 (fun H locs hw => ?_)
  refine pD_3_6 K hw kf_X7_105 dX7_setX_16 (fun H locs hw => ?_)
  exact ret (congrArg (pdW a cA) (by exact rfl)) hw dX7_setX_19
def f_X7_setY (σ0 : PS) (x1 : Int64) : PS := (upS σ0 25 (f_X7_within x1 0 (σ0.1 17)))
theorem bx_X7_setY {σ0 : PS} {x1 : Int64} (hI : Bx σ0) : Bx (f_X7_setY σ0 x1) := (bxS_25 hI)
abbrev rm_X7_setY : Room := { frames := 1, cells := 0, slots := 0, locals := 23 }
set_option maxHeartbeats 4000000 in
set_option maxRecDepth 100000 in
theorem c_X7_setY (l : Launch) (D : va_G) (a : Nat → Nat) (cA : Nat → ClassId) (σ0 : PS) (x1 : Int64) : CV l yX7_setY cX7_setY 3 rm_X7_setY D (pdT cA) [.ref (a 0), .long x1] (pdW a cA σ0) (pdW a cA (f_X7_setY σ0 x1)) := by
  refine en_v (by decide +kernel) (Nat.le_of_ble_eq_true rfl) ?_
  intro p e s m args below meth c A ls Q K hw hl ret
  have hl : lv_has ls 3 [(0, .ref (a 0)), (1, .long x1)] := hl
  refine lv_aload_n K.1 K.2.1 dX7_setY_0 rfl (lv_at hl 0 rfl) ?_
  refine gD_0_2 K hw kf_X7_26 dX7_setY_1 ?_
  refine lv_lload_n K.1 K.2.1 dX7_setY_4 rfl (lv_at hl 1 rfl) ?_
  refine lv_iconst (v := 0) K.1 K.2.1 dX7_setY_5 (by decide) ?_
  refine lv_aload_n K.1 K.2.1 dX7_setY_6 rfl (lv_at hl 0 rfl) ?_
  refine gD_0_1 K hw kf_X7_19 dX7_setY_7 ?_
  refine gD_2_4 K hw kf_X7_163 dX7_setY_10 ?_
  refine caS K hw (c_X7_within l D a cA _ _ _ _) hl.1 km_X7_98 kS_X7_within ki_X7 kC_X7_within (na := 3) rfl (by decide +kernel) ⟨rfl, rfl⟩ (by decide) ⟨Nat.zero_le _, Nat.zero_le _⟩ rfl (Nat.le_of_ble_eq_true rfl) dX7_setY_13 (fun H locs hw => ?_)
  refine pD_3_7 K hw kf_X7_108 dX7_setY_16 (fun H locs hw => ?_)
  exact ret (congrArg (pdW a cA) (by exact rfl)) hw dX7_setY_19
def f_X7_move (σ0 : PS) (x1 : Int32) (x2 : Int32) : PS := let s3 : PS := f_X7_setX σ0 (Int32.toInt64 x1); let s9 : PS := f_X7_setY s3 (Int32.toInt64 x2); s9
theorem bx_X7_move {σ0 : PS} {x1 : Int32} {x2 : Int32} (hI : Bx σ0) : Bx (f_X7_move σ0 x1 x2) := (bx_X7_setY (bx_X7_setX hI))
abbrev rm_X7_move : Room := { frames := 2, cells := 0, slots := 0, locals := 45 }
set_option maxHeartbeats 4000000 in
set_option maxRecDepth 100000 in
theorem c_X7_move (l : Launch) (D : va_G) (a : Nat → Nat) (cA : Nat → ClassId) (σ0 : PS) (x1 : Int32) (x2 : Int32) : CV l yX7_move cX7_move 3 rm_X7_move D (pdT cA) [.ref (a 0), .int x1, .int x2] (pdW a cA σ0) (pdW a cA (f_X7_move σ0 x1 x2)) := by
  refine en_v (by decide +kernel) (Nat.le_of_ble_eq_true rfl) ?_
  intro p e s m args below meth c A ls Q K hw hl ret
  have hl : lv_has ls 3 [(0, .ref (a 0)), (1, .int x1), (2, .int x2)] := hl
  refine lv_aload_n K.1 K.2.1 dX7_move_0 rfl (lv_at hl 0 rfl) ?_
  refine lv_iload_n K.1 K.2.1 dX7_move_1 rfl (lv_at hl 1 rfl) ?_
  refine lv_i2l K.1 K.2.1 dX7_move_2 rfl ?_
  refine caV K hw (c_X7_setX l D a cA _ _) hl.1 (tt_V km_X7_80 kI_X7_setX ks_X7_setX ki_X7 kC_X7_setX) 0 (ci := 7) rfl rfl rfl (na := 1) rfl (by decide +kernel) ⟨rfl, rfl⟩ (by decide) ⟨Nat.zero_le _, Nat.zero_le _⟩ rfl (Nat.le_of_ble_eq_true rfl) dX7_move_3 (fun H locs hw => ?_)
  obtain ⟨s3, es3, hw⟩ := nmD hw
  refine lv_aload_n K.1 K.2.1 dX7_move_6 rfl (lv_at hl 0 rfl) ?_
  refine lv_iload_n K.1 K.2.1 dX7_move_7 rfl (lv_at hl 2 rfl) ?_
  refine lv_i2l K.1 K.2.1 dX7_move_8 rfl ?_
  refine caV K hw (c_X7_setY l D a cA _ _) hl.1 (tt_V km_X7_84 kI_X7_setY ks_X7_setY ki_X7 kC_X7_setY) 0 (ci := 7) rfl rfl rfl (na := 1) rfl (by decide +kernel) ⟨rfl, rfl⟩ (by decide) ⟨Nat.zero_le _, Nat.zero_le _⟩ rfl (Nat.le_of_ble_eq_true rfl) dX7_move_9 (fun H locs hw => ?_)
  obtain ⟨s9, es9, hw⟩ := nmD hw
  exact ret (congrArg (pdW a cA) (by subst es9 es3; exact rfl)) hw dX7_move_12
def f_X7_due (σ0 : PS) : PS := (upS σ0 33 1)
theorem bx_X7_due {σ0 : PS} (hI : Bx σ0) : Bx (f_X7_due σ0) := (bxQ_33 hI (by decide) (by decide))
abbrev rm_X7_due : Room := { frames := 0, cells := 0, slots := 0, locals := 0 }
set_option maxHeartbeats 4000000 in
set_option maxRecDepth 100000 in
theorem c_X7_due (l : Launch) (D : va_G) (a : Nat → Nat) (cA : Nat → ClassId) (σ0 : PS) : CV l yX7_due cX7_due 1 rm_X7_due D (pdT cA) [.ref (a 0)] (pdW a cA σ0) (pdW a cA (f_X7_due σ0)) := by
  refine en_v (by decide +kernel) (Nat.le_of_ble_eq_true rfl) ?_
  intro p e s m args below meth c A ls Q K hw hl ret
  have hl : lv_has ls 1 [(0, .ref (a 0))] := hl
  refine lv_aload_n K.1 K.2.1 dX7_due_0 rfl (lv_at hl 0 rfl) ?_
  refine gD_0_5 K hw kf_X7_41 dX7_due_1 ?_
  refine lv_iconst (v := 1) K.1 K.2.1 dX7_due_4 (by decide) ?_
  refine pD_4_3 K hw rfl rfl kf_X7_76 dX7_due_5 (fun H locs hw => ?_)
  exact ret (congrArg (pdW a cA) (by exact rfl)) hw dX7_due_8
def f_X7_setDefaults (σ0 : PS) : PS := let s67 : PS := f_X7_setY (upS (upS (upS (upS (upS σ0 18 3600) 19 ((σ0.1 17) - 7200)) 20 0) 21 (σ0.1 16)) 24 0) (Int32.toInt64 (f_X1_home (upS (upS (upS (upS (upS σ0 18 3600) 19 ((σ0.1 17) - 7200)) 20 0) 21 (σ0.1 16)) 24 0))); s67
theorem bx_X7_setDefaults {σ0 : PS} (hI : Bx σ0) : Bx (f_X7_setDefaults σ0) := (bx_X7_setY (bxS_24 (bxS_21 (bxS_20 (bxS_19 (bxS_18 hI))))))
abbrev rm_X7_setDefaults : Room := { frames := 2, cells := 0, slots := 0, locals := 45 }
set_option maxHeartbeats 4000000 in
set_option maxRecDepth 100000 in
theorem c_X7_setDefaults (l : Launch) (D : va_G) (a : Nat → Nat) (cA : Nat → ClassId) (σ0 : PS) : CV l yX7_setDefaults cX7_setDefaults 1 rm_X7_setDefaults D (pdT cA) [.ref (a 0)] (pdW a cA σ0) (pdW a cA (f_X7_setDefaults σ0)) := by
  refine en_v (by decide +kernel) (Nat.le_of_ble_eq_true rfl) ?_
  intro p e s m args below meth c A ls Q K hw hl ret
  have hl : lv_has ls 1 [(0, .ref (a 0))] := hl
  refine lv_aload_n K.1 K.2.1 dX7_setDefaults_0 rfl (lv_at hl 0 rfl) ?_
  refine gD_0_2 K hw kf_X7_26 dX7_setDefaults_1 ?_
  refine lv_sipush (v := 3600) K.1 K.2.1 dX7_setDefaults_4 (by decide) ?_
  refine pD_3_0 K hw kf_X7_151 dX7_setDefaults_7 (fun H locs hw => ?_)
  refine lv_aload_n K.1 K.2.1 dX7_setDefaults_10 rfl (lv_at hl 0 rfl) ?_
  refine gD_0_2 K hw kf_X7_26 dX7_setDefaults_11 ?_
  refine lv_aload_n K.1 K.2.1 dX7_setDefaults_14 rfl (lv_at hl 0 rfl) ?_
  refine gD_0_1 K hw kf_X7_19 dX7_setDefaults_15 ?_
  refine gD_2_4 K hw kf_X7_163 dX7_setDefaults_18 ?_
  refine lv_sipush (v := 7200) K.1 K.2.1 dX7_setDefaults_21 (by decide) ?_
  refine lv_isub K.1 K.2.1 dX7_setDefaults_24 ?_
  refine pD_3_1 K hw kf_X7_154 dX7_setDefaults_25 (fun H locs hw => ?_)
  refine lv_aload_n K.1 K.2.1 dX7_setDefaults_28 rfl (lv_at hl 0 rfl) ?_
  refine gD_0_2 K hw kf_X7_26 dX7_setDefaults_29 ?_
  refine lv_iconst (v := 0) K.1 K.2.1 dX7_setDefaults_32 (by decide) ?_
  refine pD_3_2 K hw kf_X7_91 dX7_setDefaults_33 (fun H locs hw => ?_)
  refine lv_aload_n K.1 K.2.1 dX7_setDefaults_36 rfl (lv_at hl 0 rfl) ?_
  refine gD_0_2 K hw kf_X7_26 dX7_setDefaults_37 ?_
  refine lv_aload_n K.1 K.2.1 dX7_setDefaults_40 rfl (lv_at hl 0 rfl) ?_
  refine gD_0_1 K hw kf_X7_19 dX7_setDefaults_41 ?_
  refine gD_2_3 K hw kf_X7_95 dX7_setDefaults_44 ?_
  refine pD_3_3 K hw kf_X7_102 dX7_setDefaults_47 (fun H locs hw => ?_)
  refine lv_aload_n K.1 K.2.1 dX7_setDefaults_50 rfl (lv_at hl 0 rfl) ?_
  refine gD_0_2 K hw kf_X7_26 dX7_setDefaults_51 ?_
  refine lv_iconst (v := 0) K.1 K.2.1 dX7_setDefaults_54 (by decide) ?_
  refine pD_3_6 K hw kf_X7_105 dX7_setDefaults_55 (fun H locs hw => ?_)
  refine lv_aload_n K.1 K.2.1 dX7_setDefaults_58 rfl (lv_at hl 0 rfl) ?_
  refine lv_aload_n K.1 K.2.1 dX7_setDefaults_59 rfl (lv_at hl 0 rfl) ?_
  refine gD_0_2 K hw kf_X7_26 dX7_setDefaults_60 ?_
  refine caI K hw (c_X1_home l D a cA _) hl.1 (tt_V km_X7_225 kI_X1_home ks_X1_home ki_X1 kC_X1_home) 3 (ci := 1) rfl rfl rfl (na := 0) rfl (by decide +kernel) ⟨rfl, rfl⟩ (by decide) ⟨Nat.zero_le _, Nat.zero_le _⟩ rfl (Nat.le_of_ble_eq_true rfl) dX7_setDefaults_63 (fun H locs hw => ?_)
  refine lv_i2l K.1 K.2.1 dX7_setDefaults_66 rfl ?_
  refine caV K hw (c_X7_setY l D a cA _ _) hl.1 (tt_V km_X7_84 kI_X7_setY ks_X7_setY ki_X7 kC_X7_setY) 0 (ci := 7) rfl rfl rfl (na := 1) rfl (by decide +kernel) ⟨rfl, rfl⟩ (by decide) ⟨Nat.zero_le _, Nat.zero_le _⟩ rfl (Nat.le_of_ble_eq_true rfl) dX7_setDefaults_67 (fun H locs hw => ?_)
  obtain ⟨s67, es67, hw⟩ := nmD hw
  exact ret (congrArg (pdW a cA) (by subst es67; exact rfl)) hw dX7_setDefaults_70
def f_X7_reset (σ0 : PS) : PS := let s6 : PS := f_X4_choose σ0 2 0; let s78 : PS := f_X7_setDefaults (upS (upS (upS (upS (upS (upS (upS (upS s6 15 1) 22 720) 23 1200) 26 0) 27 0) 28 0) 29 0) 30 0); s78
theorem bx_X7_reset {σ0 : PS} (hI : Bx σ0) : Bx (f_X7_reset σ0) := (bx_X7_setDefaults (bxQ_30 (bxQ_29 (bxS_28 (bxQ_27 (bxQ_26 (bxS_23 (bxS_22 (bxS_15 (bx_X4_choose hI)))) (by decide) (by decide)) (by decide) (by decide))) (by decide) (by decide)) (by decide) (by decide)))
abbrev rm_X7_reset : Room := { frames := 3, cells := 0, slots := 0, locals := 65 }
set_option maxHeartbeats 4000000 in
set_option maxRecDepth 100000 in
theorem c_X7_reset (l : Launch) (D : va_G) (a : Nat → Nat) (cA : Nat → ClassId) (σ0 : PS) : CV l yX7_reset cX7_reset 1 rm_X7_reset D (pdT cA) [.ref (a 0)] (pdW a cA σ0) (pdW a cA (f_X7_reset σ0)) := by
  refine en_v (by decide +kernel) (Nat.le_of_ble_eq_true rfl) ?_
  intro p e s m args below meth c A ls Q K hw hl ret
  have hl : lv_has ls 1 [(0, .ref (a 0))] := hl
  refine lv_aload_n K.1 K.2.1 dX7_reset_0 rfl (lv_at hl 0 rfl) ?_
  refine gD_0_1 K hw kf_X7_19 dX7_reset_1 ?_
  refine lv_iconst (v := 2) K.1 K.2.1 dX7_reset_4 (by decide) ?_
  refine lv_iconst (v := 0) K.1 K.2.1 dX7_reset_5 (by decide) ?_
  refine caV K hw (c_X4_choose l D a cA _ _ _) hl.1 (tt_V km_X7_218 kI_X4_choose ks_X4_choose ki_X4 kC_X4_choose) 2 (ci := 4) rfl rfl rfl (na := 2) rfl (by decide +kernel) ⟨rfl, rfl⟩ (by decide) ⟨Nat.zero_le _, Nat.zero_le _⟩ rfl (Nat.le_of_ble_eq_true rfl) dX7_reset_6 (fun H locs hw => ?_)
  obtain ⟨s6, es6, hw⟩ := nmD hw
  refine lv_aload_n K.1 K.2.1 dX7_reset_9 rfl (lv_at hl 0 rfl) ?_
  refine gD_0_1 K hw kf_X7_19 dX7_reset_10 ?_
  refine lv_iconst (v := 1) K.1 K.2.1 dX7_reset_13 (by decide) ?_
  refine pD_2_2 K hw kf_X7_181 dX7_reset_14 (fun H locs hw => ?_)
  refine lv_aload_n K.1 K.2.1 dX7_reset_17 rfl (lv_at hl 0 rfl) ?_
  refine gD_0_2 K hw kf_X7_26 dX7_reset_18 ?_
  refine lv_sipush (v := 720) K.1 K.2.1 dX7_reset_21 (by decide) ?_
  refine pD_3_4 K hw kf_X7_157 dX7_reset_24 (fun H locs hw => ?_)
  refine lv_aload_n K.1 K.2.1 dX7_reset_27 rfl (lv_at hl 0 rfl) ?_
  refine gD_0_2 K hw kf_X7_26 dX7_reset_28 ?_
  refine lv_sipush (v := 1200) K.1 K.2.1 dX7_reset_31 (by decide) ?_
  refine pD_3_5 K hw kf_X7_160 dX7_reset_34 (fun H locs hw => ?_)
  refine lv_aload_n K.1 K.2.1 dX7_reset_37 rfl (lv_at hl 0 rfl) ?_
  refine gD_0_2 K hw kf_X7_26 dX7_reset_38 ?_
  refine lv_iconst (v := 0) K.1 K.2.1 dX7_reset_41 (by decide) ?_
  refine pD_3_8 K hw rfl rfl kf_X7_172 dX7_reset_42 (fun H locs hw => ?_)
  refine lv_aload_n K.1 K.2.1 dX7_reset_45 rfl (lv_at hl 0 rfl) ?_
  refine gD_0_2 K hw kf_X7_26 dX7_reset_46 ?_
  refine lv_iconst (v := 0) K.1 K.2.1 dX7_reset_49 (by decide) ?_
  refine pD_3_9 K hw rfl rfl kf_X7_175 dX7_reset_50 (fun H locs hw => ?_)
  refine lv_aload_n K.1 K.2.1 dX7_reset_53 rfl (lv_at hl 0 rfl) ?_
  refine gD_0_2 K hw kf_X7_26 dX7_reset_54 ?_
  refine lv_iconst (v := 0) K.1 K.2.1 dX7_reset_57 (by decide) ?_
  refine pD_3_10 K hw kf_X7_178 dX7_reset_58 (fun H locs hw => ?_)
  refine lv_aload_n K.1 K.2.1 dX7_reset_61 rfl (lv_at hl 0 rfl) ?_
  refine gD_0_2 K hw kf_X7_26 dX7_reset_62 ?_
  refine lv_iconst (v := 0) K.1 K.2.1 dX7_reset_65 (by decide) ?_
  refine pD_3_11 K hw kf_X7_184 dX7_reset_66 (fun H locs hw => ?_)
  refine lv_aload_n K.1 K.2.1 dX7_reset_69 rfl (lv_at hl 0 rfl) ?_
  refine gD_0_2 K hw kf_X7_26 dX7_reset_70 ?_
  refine lv_iconst (v := 0) K.1 K.2.1 dX7_reset_73 (by decide) ?_
  refine pD_3_12 K hw kf_X7_142 dX7_reset_74 (fun H locs hw => ?_)
  refine lv_aload_n K.1 K.2.1 dX7_reset_77 rfl (lv_at hl 0 rfl) ?_
  refine caV K hw (c_X7_setDefaults l D a cA _) hl.1 (tt_V km_X7_222 kI_X7_setDefaults ks_X7_setDefaults ki_X7 kC_X7_setDefaults) 0 (ci := 7) rfl rfl rfl (na := 0) rfl (by decide +kernel) ⟨rfl, rfl⟩ (by decide) ⟨Nat.zero_le _, Nat.zero_le _⟩ rfl (Nat.le_of_ble_eq_true rfl) dX7_reset_78 (fun H locs hw => ?_)
  obtain ⟨s78, es78, hw⟩ := nmD hw
  exact ret (congrArg (pdW a cA) (by subst es78 es6; exact rfl)) hw dX7_reset_81
def f_X7_eject (σ0 : PS) : PS := let s15 : PS := f_X0_add σ0 (σ0.1 32); let s22 : PS := f_X6_clear s15; let s34 : PS := f_X7_setY s22 (Int32.toInt64 (f_X1_home s22)); s34
theorem bx_X7_eject {σ0 : PS} (hI : Bx σ0) : Bx (f_X7_eject σ0) := (bx_X7_setY (bx_X6_clear (bx_X0_add hI)))
abbrev rm_X7_eject : Room := { frames := 2, cells := 0, slots := 0, locals := 45 }
set_option maxHeartbeats 4000000 in
set_option maxRecDepth 100000 in
theorem c_X7_eject (l : Launch) (D : va_G) (a : Nat → Nat) (cA : Nat → ClassId) (σ0 : PS) : CV l yX7_eject cX7_eject 1 rm_X7_eject D (pdT cA) [.ref (a 0)] (pdW a cA σ0) (pdW a cA (f_X7_eject σ0)) := by
  refine en_v (by decide +kernel) (Nat.le_of_ble_eq_true rfl) ?_
  intro p e s m args below meth c A ls Q K hw hl ret
  have hl : lv_has ls 1 [(0, .ref (a 0))] := hl
  refine lv_aload_n K.1 K.2.1 dX7_eject_0 rfl (lv_at hl 0 rfl) ?_
  refine gD_0_6 K hw kf_X7_48 dX7_eject_1 ?_
  refine lv_aload_n K.1 K.2.1 dX7_eject_4 rfl (lv_at hl 0 rfl) ?_
  refine gD_0_5 K hw kf_X7_41 dX7_eject_5 ?_
  refine gD_4_2 K hw kf_X7_232 dX7_eject_8 ?_
  refine lv_aload_n K.1 K.2.1 dX7_eject_11 rfl (lv_at hl 0 rfl) ?_
  refine gD_0_1 K hw kf_X7_19 dX7_eject_12 ?_
  refine caV K hw (c_X0_add l D a cA _ _) hl.1 (tt_V km_X7_235 kI_X0_add ks_X0_add ki_X0 kC_X0_add) 5 (ci := 0) rfl rfl rfl (na := 2) rfl (by decide +kernel) ⟨rfl, rfl⟩ (by decide) ⟨Nat.zero_le _, Nat.zero_le _⟩ rfl (Nat.le_of_ble_eq_true rfl) dX7_eject_15 (fun H locs hw => ?_)
  obtain ⟨s15, es15, hw⟩ := nmD hw
  refine lv_aload_n K.1 K.2.1 dX7_eject_18 rfl (lv_at hl 0 rfl) ?_
  refine gD_0_5 K hw kf_X7_41 dX7_eject_19 ?_
  refine caV K hw (c_X6_clear l D a cA _) hl.1 (tt_V km_X7_239 kI_X6_clear ks_X6_clear ki_X6 kC_X6_clear) 4 (ci := 6) rfl rfl rfl (na := 0) rfl (by decide +kernel) ⟨rfl, rfl⟩ (by decide) ⟨Nat.zero_le _, Nat.zero_le _⟩ rfl (Nat.le_of_ble_eq_true rfl) dX7_eject_22 (fun H locs hw => ?_)
  obtain ⟨s22, es22, hw⟩ := nmD hw
  refine lv_aload_n K.1 K.2.1 dX7_eject_25 rfl (lv_at hl 0 rfl) ?_
  refine lv_aload_n K.1 K.2.1 dX7_eject_26 rfl (lv_at hl 0 rfl) ?_
  refine gD_0_2 K hw kf_X7_26 dX7_eject_27 ?_
  refine caI K hw (c_X1_home l D a cA _) hl.1 (tt_V km_X7_225 kI_X1_home ks_X1_home ki_X1 kC_X1_home) 3 (ci := 1) rfl rfl rfl (na := 0) rfl (by decide +kernel) ⟨rfl, rfl⟩ (by decide) ⟨Nat.zero_le _, Nat.zero_le _⟩ rfl (Nat.le_of_ble_eq_true rfl) dX7_eject_30 (fun H locs hw => ?_)
  refine lv_i2l K.1 K.2.1 dX7_eject_33 rfl ?_
  refine caV K hw (c_X7_setY l D a cA _ _) hl.1 (tt_V km_X7_84 kI_X7_setY ks_X7_setY ki_X7 kC_X7_setY) 0 (ci := 7) rfl rfl rfl (na := 1) rfl (by decide +kernel) ⟨rfl, rfl⟩ (by decide) ⟨Nat.zero_le _, Nat.zero_le _⟩ rfl (Nat.le_of_ble_eq_true rfl) dX7_eject_34 (fun H locs hw => ?_)
  obtain ⟨s34, es34, hw⟩ := nmD hw
  exact ret (congrArg (pdW a cA) (by subst es34 es22 es15; exact rfl)) hw dX7_eject_37
def g_X7_changePaper_14 (σ : PS) (y1 : Int32) (y2 : Int32) : PS := let s20 : PS := f_X4_choose σ y1 y2; let s24 : PS := f_X7_setDefaults s20; s24
def f_X7_changePaper (σ0 : PS) (x1 : Int32) (x2 : Int32) : PS := (if (f_X6_isDue σ0) = 0 then (g_X7_changePaper_14 σ0 x1 x2) else let s11 : PS := f_X7_eject σ0; (g_X7_changePaper_14 s11 x1 x2))
theorem bx_g_X7_changePaper_14 {σ : PS} {y1 : Int32} {y2 : Int32} (hI : Bx σ) : Bx (g_X7_changePaper_14 σ y1 y2) := (bx_X7_setDefaults (bx_X4_choose hI))
theorem bx_X7_changePaper {σ0 : PS} {x1 : Int32} {x2 : Int32} (hI : Bx σ0) : Bx (f_X7_changePaper σ0 x1 x2) := (bxI (fun c7 => (bx_g_X7_changePaper_14 hI)) (fun c7 => (bx_g_X7_changePaper_14 (bx_X7_eject hI))))
abbrev rm_X7_changePaper : Room := { frames := 3, cells := 0, slots := 0, locals := 65 }
set_option maxHeartbeats 4000000 in
set_option maxRecDepth 100000 in
theorem c_X7_changePaper (l : Launch) (D : va_G) (a : Nat → Nat) (cA : Nat → ClassId) (σ0 : PS) (x1 : Int32) (x2 : Int32) : CV l yX7_changePaper cX7_changePaper 3 rm_X7_changePaper D (pdT cA) [.ref (a 0), .int x1, .int x2] (pdW a cA σ0) (pdW a cA (f_X7_changePaper σ0 x1 x2)) := by
  refine en_v (by decide +kernel) (Nat.le_of_ble_eq_true rfl) ?_
  intro p e s m args below meth c A ls Q K hw hl ret
  have hl : lv_has ls 3 [(0, .ref (a 0)), (1, .int x1), (2, .int x2)] := hl
  have J14 : ∀ (σ : PS) (y1 : Int32) (y2 : Int32) (H : Heap) (locs : List Loc) (ls : Array Slot), WD D A s.heap (pdW a cA σ) H locs → lv_has ls 3 [(0, .ref (a 0)), (1, .int y1), (2, .int y2)] → f_X7_changePaper σ0 x1 x2 = g_X7_changePaper_14 σ y1 y2 → W p l e rm_X7_changePaper s m args below meth c H locs 0 0 Q (F0 m 14 ls []) := by
    intro σ y1 y2 H locs ls hw hl e0
    refine lv_aload_n K.1 K.2.1 dX7_changePaper_14 rfl (lv_at hl 0 rfl) ?_
    refine gD_0_1 K hw kf_X7_19 dX7_changePaper_15 ?_
    refine lv_iload_n K.1 K.2.1 dX7_changePaper_18 rfl (lv_at hl 1 rfl) ?_
    refine lv_iload_n K.1 K.2.1 dX7_changePaper_19 rfl (lv_at hl 2 rfl) ?_
    refine caV K hw (c_X4_choose l D a cA _ _ _) hl.1 (tt_V km_X7_218 kI_X4_choose ks_X4_choose ki_X4 kC_X4_choose) 2 (ci := 4) rfl rfl rfl (na := 2) rfl (by decide +kernel) ⟨rfl, rfl⟩ (by decide) ⟨Nat.zero_le _, Nat.zero_le _⟩ rfl (Nat.le_of_ble_eq_true rfl) dX7_changePaper_20 (fun H locs hw => ?_)
    obtain ⟨s20, es20, hw⟩ := nmD hw
    refine lv_aload_n K.1 K.2.1 dX7_changePaper_23 rfl (lv_at hl 0 rfl) ?_
    refine caV K hw (c_X7_setDefaults l D a cA _) hl.1 (tt_V km_X7_222 kI_X7_setDefaults ks_X7_setDefaults ki_X7 kC_X7_setDefaults) 0 (ci := 7) rfl rfl rfl (na := 0) rfl (by decide +kernel) ⟨rfl, rfl⟩ (by decide) ⟨Nat.zero_le _, Nat.zero_le _⟩ rfl (Nat.le_of_ble_eq_true rfl) dX7_changePaper_24 (fun H locs hw => ?_)
    obtain ⟨s24, es24, hw⟩ := nmD hw
    exact ret (congrArg (pdW a cA) (by subst es24 es20; exact (Eq.trans e0 rfl))) hw dX7_changePaper_27
  refine lv_aload_n K.1 K.2.1 dX7_changePaper_0 rfl (lv_at hl 0 rfl) ?_
  refine gD_0_5 K hw kf_X7_41 dX7_changePaper_1 ?_
  refine caI K hw (c_X6_isDue l D a cA _) hl.1 (tt_V km_X7_197 kI_X6_isDue ks_X6_isDue ki_X6 kC_X6_isDue) 4 (ci := 6) rfl rfl rfl (na := 0) rfl (by decide +kernel) ⟨rfl, rfl⟩ (by decide) ⟨Nat.zero_le _, Nat.zero_le _⟩ rfl (Nat.le_of_ble_eq_true rfl) dX7_changePaper_4 (fun H locs hw => ?_)
  refine lv_if_eq (tgt := 14) K.1 K.2.1 dX7_changePaper_7 (by decide) (fun c7 => ?_) (fun c7 => ?_)
  · exact J14 _ _ _ _ _ _ hw (lv_sub hl [0, 1, 2] rfl) (by exact (Eq.trans (if_pos c7) rfl))
  · refine lv_aload_n K.1 K.2.1 dX7_changePaper_10 rfl (lv_at hl 0 rfl) ?_
    refine caV K hw (c_X7_eject l D a cA _) hl.1 (tt_V km_X7_229 kI_X7_eject ks_X7_eject ki_X7 kC_X7_eject) 0 (ci := 7) rfl rfl rfl (na := 0) rfl (by decide +kernel) ⟨rfl, rfl⟩ (by decide) ⟨Nat.zero_le _, Nat.zero_le _⟩ rfl (Nat.le_of_ble_eq_true rfl) dX7_changePaper_11 (fun H locs hw => ?_)
    obtain ⟨s11, es11, hw⟩ := nmD hw
    exact J14 _ _ _ _ _ _ hw (lv_sub hl [0, 1, 2] rfl) (by subst es11; exact (Eq.trans (if_neg c7) rfl))
def f_X7_carriageReturn (σ0 : PS) : PS := (upS σ0 24 (σ0.1 20))
theorem bx_X7_carriageReturn {σ0 : PS} (hI : Bx σ0) : Bx (f_X7_carriageReturn σ0) := (bxS_24 hI)
abbrev rm_X7_carriageReturn : Room := { frames := 0, cells := 0, slots := 0, locals := 0 }
set_option maxHeartbeats 4000000 in
set_option maxRecDepth 100000 in
theorem c_X7_carriageReturn (l : Launch) (D : va_G) (a : Nat → Nat) (cA : Nat → ClassId) (σ0 : PS) : CV l yX7_carriageReturn cX7_carriageReturn 1 rm_X7_carriageReturn D (pdT cA) [.ref (a 0)] (pdW a cA σ0) (pdW a cA (f_X7_carriageReturn σ0)) := by
  refine en_v (by decide +kernel) (Nat.le_of_ble_eq_true rfl) ?_
  intro p e s m args below meth c A ls Q K hw hl ret
  have hl : lv_has ls 1 [(0, .ref (a 0))] := hl
  refine lv_aload_n K.1 K.2.1 dX7_carriageReturn_0 rfl (lv_at hl 0 rfl) ?_
  refine gD_0_2 K hw kf_X7_26 dX7_carriageReturn_1 ?_
  refine lv_aload_n K.1 K.2.1 dX7_carriageReturn_4 rfl (lv_at hl 0 rfl) ?_
  refine gD_0_2 K hw kf_X7_26 dX7_carriageReturn_5 ?_
  refine gD_3_2 K hw kf_X7_91 dX7_carriageReturn_8 ?_
  refine pD_3_6 K hw kf_X7_105 dX7_carriageReturn_11 (fun H locs hw => ?_)
  exact ret (congrArg (pdW a cA) (by exact rfl)) hw dX7_carriageReturn_14
def f_X7_lineFeed (σ0 : PS) (x1 : Int32) : PS := let x2_9 : Int32 := ((σ0.1 25) + x1); (if (σ0.1 17) < x2_9 then let s51 : PS := f_X7_eject σ0; s51 else (if (σ0.1 27) = 0 then (upS σ0 25 x2_9) else (if x2_9 ≤ ((σ0.1 18) + (σ0.1 19)) then (upS σ0 25 x2_9) else let s51 : PS := f_X7_eject σ0; s51)))
theorem bx_X7_lineFeed {σ0 : PS} {x1 : Int32} (hI : Bx σ0) : Bx (f_X7_lineFeed σ0 x1) := (bxI (fun c18 => (bx_X7_eject hI)) (fun c18 => (bxI (fun c28 => (bxS_25 hI)) (fun c28 => (bxI (fun c47 => (bxS_25 hI)) (fun c47 => (bx_X7_eject hI)))))))
abbrev rm_X7_lineFeed : Room := { frames := 3, cells := 0, slots := 0, locals := 65 }
set_option maxHeartbeats 4000000 in
set_option maxRecDepth 100000 in
theorem c_X7_lineFeed (l : Launch) (D : va_G) (a : Nat → Nat) (cA : Nat → ClassId) (σ0 : PS) (x1 : Int32) : CV l yX7_lineFeed cX7_lineFeed 3 rm_X7_lineFeed D (pdT cA) [.ref (a 0), .int x1] (pdW a cA σ0) (pdW a cA (f_X7_lineFeed σ0 x1)) := by
  refine en_v (by decide +kernel) (Nat.le_of_ble_eq_true rfl) ?_
  intro p e s m args below meth c A ls Q K hw hl ret
  have hl : lv_has ls 3 [(0, .ref (a 0)), (1, .int x1)] := hl
  refine lv_aload_n K.1 K.2.1 dX7_lineFeed_0 rfl (lv_at hl 0 rfl) ?_
  refine gD_0_2 K hw kf_X7_26 dX7_lineFeed_1 ?_
  refine gD_3_7 K hw kf_X7_108 dX7_lineFeed_4 ?_
  refine lv_iload_n K.1 K.2.1 dX7_lineFeed_7 rfl (lv_at hl 1 rfl) ?_
  refine lv_iadd K.1 K.2.1 dX7_lineFeed_8 ?_
  refine lv_topi (fun x2_9 ex2_9 => ?_)
  refine lv_istore_n (lv' := [(2, .int x2_9), (0, .ref (a 0)), (1, .int x1)]) K.1 K.2.1 dX7_lineFeed_9 rfl hl (by decide) rfl (fun ls hl => ?_)
  refine lv_iload_n K.1 K.2.1 dX7_lineFeed_10 rfl (lv_at hl 0 rfl) ?_
  refine lv_aload_n K.1 K.2.1 dX7_lineFeed_11 rfl (lv_at hl 1 rfl) ?_
  refine gD_0_1 K hw kf_X7_19 dX7_lineFeed_12 ?_
  refine gD_2_4 K hw kf_X7_163 dX7_lineFeed_15 ?_
  refine lv_icmp_gt (tgt := 50) K.1 K.2.1 dX7_lineFeed_18 (by decide) (fun c18 => ?_) (fun c18 => ?_)
  · refine lv_aload_n K.1 K.2.1 dX7_lineFeed_50 rfl (lv_at hl 1 rfl) ?_
    refine caV K hw (c_X7_eject l D a cA _) hl.1 (tt_V km_X7_229 kI_X7_eject ks_X7_eject ki_X7 kC_X7_eject) 0 (ci := 7) rfl rfl rfl (na := 0) rfl (by decide +kernel) ⟨rfl, rfl⟩ (by decide) ⟨Nat.zero_le _, Nat.zero_le _⟩ rfl (Nat.le_of_ble_eq_true rfl) dX7_lineFeed_51 (fun H locs hw => ?_)
    obtain ⟨s51, es51, hw⟩ := nmD hw
    refine lv_goto (tgt := 65) K.1 K.2.1 dX7_lineFeed_54 (by decide) ?_
    exact ret (congrArg (pdW a cA) (by subst es51 ex2_9; exact (Eq.trans (if_pos c18) rfl))) hw dX7_lineFeed_65
  · refine lv_aload_n K.1 K.2.1 dX7_lineFeed_21 rfl (lv_at hl 1 rfl) ?_
    refine gD_0_2 K hw kf_X7_26 dX7_lineFeed_22 ?_
    refine gD_3_9 K hw kf_X7_175 dX7_lineFeed_25 ?_
    refine lv_if_eq (tgt := 57) K.1 K.2.1 dX7_lineFeed_28 (by decide) (fun c28 => ?_) (fun c28 => ?_)
    · refine lv_aload_n K.1 K.2.1 dX7_lineFeed_57 rfl (lv_at hl 1 rfl) ?_
      refine gD_0_2 K hw kf_X7_26 dX7_lineFeed_58 ?_
      refine lv_iload_n K.1 K.2.1 dX7_lineFeed_61 rfl (lv_at hl 0 rfl) ?_
      refine pD_3_7 K hw kf_X7_108 dX7_lineFeed_62 (fun H locs hw => ?_)
      exact ret (congrArg (pdW a cA) (by subst ex2_9; exact (Eq.trans (if_neg c18) (Eq.trans (if_pos c28) rfl)))) hw dX7_lineFeed_65
    · refine lv_iload_n K.1 K.2.1 dX7_lineFeed_31 rfl (lv_at hl 0 rfl) ?_
      refine lv_aload_n K.1 K.2.1 dX7_lineFeed_32 rfl (lv_at hl 1 rfl) ?_
      refine gD_0_2 K hw kf_X7_26 dX7_lineFeed_33 ?_
      refine gD_3_0 K hw kf_X7_151 dX7_lineFeed_36 ?_
      refine lv_aload_n K.1 K.2.1 dX7_lineFeed_39 rfl (lv_at hl 1 rfl) ?_
      refine gD_0_2 K hw kf_X7_26 dX7_lineFeed_40 ?_
      refine gD_3_1 K hw kf_X7_154 dX7_lineFeed_43 ?_
      refine lv_iadd K.1 K.2.1 dX7_lineFeed_46 ?_
      refine lv_icmp_le (tgt := 57) K.1 K.2.1 dX7_lineFeed_47 (by decide) (fun c47 => ?_) (fun c47 => ?_)
      · refine lv_aload_n K.1 K.2.1 dX7_lineFeed_57 rfl (lv_at hl 1 rfl) ?_
        refine gD_0_2 K hw kf_X7_26 dX7_lineFeed_58 ?_
        refine lv_iload_n K.1 K.2.1 dX7_lineFeed_61 rfl (lv_at hl 0 rfl) ?_
        refine pD_3_7 K hw kf_X7_108 dX7_lineFeed_62 (fun H locs hw => ?_)
        exact ret (congrArg (pdW a cA) (by subst ex2_9; exact (Eq.trans (if_neg c18) (Eq.trans (if_neg c28) (Eq.trans (if_pos c47) rfl))))) hw dX7_lineFeed_65
      · refine lv_aload_n K.1 K.2.1 dX7_lineFeed_50 rfl (lv_at hl 1 rfl) ?_
        refine caV K hw (c_X7_eject l D a cA _) hl.1 (tt_V km_X7_229 kI_X7_eject ks_X7_eject ki_X7 kC_X7_eject) 0 (ci := 7) rfl rfl rfl (na := 0) rfl (by decide +kernel) ⟨rfl, rfl⟩ (by decide) ⟨Nat.zero_le _, Nat.zero_le _⟩ rfl (Nat.le_of_ble_eq_true rfl) dX7_lineFeed_51 (fun H locs hw => ?_)
        obtain ⟨s51, es51, hw⟩ := nmD hw
        refine lv_goto (tgt := 65) K.1 K.2.1 dX7_lineFeed_54 (by decide) ?_
        exact ret (congrArg (pdW a cA) (by subst es51 ex2_9; exact (Eq.trans (if_neg c18) (Eq.trans (if_neg c28) (Eq.trans (if_neg c47) rfl))))) hw dX7_lineFeed_65
def g_X7_character_133 (σ : PS) (y3 : Int32) : PS := let s144 : PS := f_X7_setX σ (Int32.toInt64 ((σ.1 24) + y3)); s144
def g_X7_character_98 (σ : PS) (y1 : Int32) (y3 : Int32) : PS := (if y1 = 32 then (g_X7_character_133 σ y3) else let s130 : PS := f_X6_put σ (σ.1 24) (σ.1 25) y1 (σ.1 29); (g_X7_character_133 s130 y3))
def g_X7_character_72 (σ : PS) (y1 : Int32) (y3 : Int32) : PS := (if (σ.1 26) = 0 then σ else let s84 : PS := f_X7_carriageReturn σ; let s95 : PS := f_X7_lineFeed s84 (s84.1 23); (g_X7_character_98 s95 y1 y3))
def g_X7_character_35 (σ : PS) (y1 : Int32) (k0 : Int32) : PS := (if (σ.1 21) ≤ (σ.1 24) then (g_X7_character_72 σ y1 k0) else (if ((σ.1 24) + k0) ≤ (σ.1 21) then (g_X7_character_98 σ y1 k0) else (g_X7_character_72 σ y1 k0)))
def f_X7_character (σ0 : PS) (x1 : Int32) : PS := let x2_18 : Int32 := (σ0.2.1 0 (Int32.toNatClampNeg (((σ0.1 29) * 256) + x1))); (if x2_18 = (-1) then (g_X7_character_35 σ0 x1 (σ0.1 22)) else (g_X7_character_35 σ0 x1 x2_18))
theorem bx_g_X7_character_133 {σ : PS} {y3 : Int32} (hI : Bx σ) : Bx (g_X7_character_133 σ y3) := (bx_X7_setX hI)
theorem bx_g_X7_character_98 {σ : PS} {y1 : Int32} {y3 : Int32} (hI : Bx σ) : Bx (g_X7_character_98 σ y1 y3) := (bxI (fun c101 => (bx_g_X7_character_133 hI)) (fun c101 => (bx_g_X7_character_133 (bx_X6_put hI))))
theorem bx_g_X7_character_72 {σ : PS} {y1 : Int32} {y3 : Int32} (hI : Bx σ) : Bx (g_X7_character_72 σ y1 y3) := (bxI (fun c79 => hI) (fun c79 => (bx_g_X7_character_98 (bx_X7_lineFeed (bx_X7_carriageReturn hI)))))
theorem bx_g_X7_character_35 {σ : PS} {y1 : Int32} {k0 : Int32} (hI : Bx σ) : Bx (g_X7_character_35 σ y1 k0) := (bxI (fun c50 => (bx_g_X7_character_72 hI)) (fun c50 => (bxI (fun c69 => (bx_g_X7_character_98 hI)) (fun c69 => (bx_g_X7_character_72 hI)))))
theorem bx_X7_character {σ0 : PS} {x1 : Int32} (hI : Bx σ0) : Bx (f_X7_character σ0 x1) := (bxI (fun c21 => (bx_g_X7_character_35 hI)) (fun c21 => (bx_g_X7_character_35 hI)))
abbrev rm_X7_character : Room := { frames := 4, cells := 0, slots := 0, locals := 87 }
set_option maxHeartbeats 4000000 in
set_option maxRecDepth 100000 in
theorem c_X7_character (l : Launch) (D : va_G) (a : Nat → Nat) (cA : Nat → ClassId) (σ0 : PS) (x1 : Int32) (hI : Bx σ0) (hb : 0 ≤ x1.toInt ∧ x1.toInt ≤ 255) : CV l yX7_character cX7_character 4 rm_X7_character D (pdT cA) [.ref (a 0), .int x1] (pdW a cA σ0) (pdW a cA (f_X7_character σ0 x1)) := by
  refine en_v (by decide +kernel) (Nat.le_of_ble_eq_true rfl) ?_
  intro p e s m args below meth c A ls Q K hw hl ret
  have hl : lv_has ls 4 [(0, .ref (a 0)), (1, .int x1)] := hl
  have J133 : ∀ (σ : PS) (y3 : Int32) (H : Heap) (locs : List Loc) (ls : Array Slot), WD D A s.heap (pdW a cA σ) H locs → lv_has ls 4 [(0, .ref (a 0)), (3, .int y3)] → Bx σ → f_X7_character σ0 x1 = g_X7_character_133 σ y3 → W p l e rm_X7_character s m args below meth c H locs 0 0 Q (F0 m 133 ls []) := by
    intro σ y3 H locs ls hw hl hI e0
    refine lv_aload_n K.1 K.2.1 dX7_character_133 rfl (lv_at hl 0 rfl) ?_
    refine lv_aload_n K.1 K.2.1 dX7_character_134 rfl (lv_at hl 0 rfl) ?_
    refine gD_0_2 K hw kf_X7_26 dX7_character_135 ?_
    refine gD_3_6 K hw kf_X7_105 dX7_character_138 ?_
    refine lv_iload_n K.1 K.2.1 dX7_character_141 rfl (lv_at hl 1 rfl) ?_
    refine lv_iadd K.1 K.2.1 dX7_character_142 ?_
    refine lv_i2l K.1 K.2.1 dX7_character_143 rfl ?_
    refine caV K hw (c_X7_setX l D a cA _ _) hl.1 (tt_V km_X7_80 kI_X7_setX ks_X7_setX ki_X7 kC_X7_setX) 0 (ci := 7) rfl rfl rfl (na := 1) rfl (by decide +kernel) ⟨rfl, rfl⟩ (by decide) ⟨Nat.zero_le _, Nat.zero_le _⟩ rfl (Nat.le_of_ble_eq_true rfl) dX7_character_144 (fun H locs hw => ?_)
    obtain ⟨s144, es144, hw⟩ := nmD hw
    have hI144 : Bx s144 := by rw [es144]; exact bx_X7_setX hI
    exact ret (congrArg (pdW a cA) (by subst es144; exact (Eq.trans e0 rfl))) hw dX7_character_147
  have J98 : ∀ (σ : PS) (y1 : Int32) (y3 : Int32) (H : Heap) (locs : List Loc) (ls : Array Slot), WD D A s.heap (pdW a cA σ) H locs → lv_has ls 4 [(0, .ref (a 0)), (1, .int y1), (3, .int y3)] → Bx σ → f_X7_character σ0 x1 = g_X7_character_98 σ y1 y3 → W p l e rm_X7_character s m args below meth c H locs 0 0 Q (F0 m 98 ls []) := by
    intro σ y1 y3 H locs ls hw hl hI e0
    refine lv_iload_n K.1 K.2.1 dX7_character_98 rfl (lv_at hl 1 rfl) ?_
    refine lv_bipush (v := 32) K.1 K.2.1 dX7_character_99 (by decide) ?_
    refine lv_icmp_eq (tgt := 133) K.1 K.2.1 dX7_character_101 (by decide) (fun c101 => ?_) (fun c101 => ?_)
    · exact J133 _ _ _ _ _ hw (lv_sub hl [0, 2] rfl) hI (by exact (Eq.trans e0 (Eq.trans (if_pos c101) rfl)))
    · refine lv_aload_n K.1 K.2.1 dX7_character_104 rfl (lv_at hl 0 rfl) ?_
      refine gD_0_5 K hw kf_X7_41 dX7_character_105 ?_
      refine lv_aload_n K.1 K.2.1 dX7_character_108 rfl (lv_at hl 0 rfl) ?_
      refine gD_0_2 K hw kf_X7_26 dX7_character_109 ?_
      refine gD_3_6 K hw kf_X7_105 dX7_character_112 ?_
      refine lv_aload_n K.1 K.2.1 dX7_character_115 rfl (lv_at hl 0 rfl) ?_
      refine gD_0_2 K hw kf_X7_26 dX7_character_116 ?_
      refine gD_3_7 K hw kf_X7_108 dX7_character_119 ?_
      refine lv_iload_n K.1 K.2.1 dX7_character_122 rfl (lv_at hl 1 rfl) ?_
      refine lv_aload_n K.1 K.2.1 dX7_character_123 rfl (lv_at hl 0 rfl) ?_
      refine gD_0_2 K hw kf_X7_26 dX7_character_124 ?_
      refine gD_3_11 K hw kf_X7_184 dX7_character_127 ?_
      refine caV K hw (c_X6_put l D a cA _ _ _ _ _ hI) hl.1 (tt_V km_X7_248 kI_X6_put ks_X6_put ki_X6 kC_X6_put) 4 (ci := 6) rfl rfl rfl (na := 4) rfl (by decide +kernel) ⟨rfl, rfl⟩ (by decide) ⟨Nat.zero_le _, Nat.zero_le _⟩ rfl (Nat.le_of_ble_eq_true rfl) dX7_character_130 (fun H locs hw => ?_)
      obtain ⟨s130, es130, hw⟩ := nmD hw
      have hI130 : Bx s130 := by rw [es130]; exact bx_X6_put hI
      exact J133 _ _ _ _ _ hw (lv_sub hl [0, 2] rfl) hI130 (by subst es130; exact (Eq.trans e0 (Eq.trans (if_neg c101) rfl)))
  have J72 : ∀ (σ : PS) (y1 : Int32) (y3 : Int32) (H : Heap) (locs : List Loc) (ls : Array Slot), WD D A s.heap (pdW a cA σ) H locs → lv_has ls 4 [(0, .ref (a 0)), (1, .int y1), (3, .int y3)] → Bx σ → f_X7_character σ0 x1 = g_X7_character_72 σ y1 y3 → W p l e rm_X7_character s m args below meth c H locs 0 0 Q (F0 m 72 ls []) := by
    intro σ y1 y3 H locs ls hw hl hI e0
    refine lv_aload_n K.1 K.2.1 dX7_character_72 rfl (lv_at hl 0 rfl) ?_
    refine gD_0_2 K hw kf_X7_26 dX7_character_73 ?_
    refine gD_3_8 K hw kf_X7_172 dX7_character_76 ?_
    refine lv_if_ne (tgt := 83) K.1 K.2.1 dX7_character_79 (by decide) (fun c79 => ?_) (fun c79 => ?_)
    · refine lv_aload_n K.1 K.2.1 dX7_character_83 rfl (lv_at hl 0 rfl) ?_
      refine caV K hw (c_X7_carriageReturn l D a cA _) hl.1 (tt_V km_X7_242 kI_X7_carriageReturn ks_X7_carriageReturn ki_X7 kC_X7_carriageReturn) 0 (ci := 7) rfl rfl rfl (na := 0) rfl (by decide +kernel) ⟨rfl, rfl⟩ (by decide) ⟨Nat.zero_le _, Nat.zero_le _⟩ rfl (Nat.le_of_ble_eq_true rfl) dX7_character_84 (fun H locs hw => ?_)
      obtain ⟨s84, es84, hw⟩ := nmD hw
      have hI84 : Bx s84 := by rw [es84]; exact bx_X7_carriageReturn hI
      refine lv_aload_n K.1 K.2.1 dX7_character_87 rfl (lv_at hl 0 rfl) ?_
      refine lv_aload_n K.1 K.2.1 dX7_character_88 rfl (lv_at hl 0 rfl) ?_
      refine gD_0_2 K hw kf_X7_26 dX7_character_89 ?_
      refine gD_3_5 K hw kf_X7_160 dX7_character_92 ?_
      refine caV K hw (c_X7_lineFeed l D a cA _ _) hl.1 (tt_V km_X7_245 kI_X7_lineFeed ks_X7_lineFeed ki_X7 kC_X7_lineFeed) 0 (ci := 7) rfl rfl rfl (na := 1) rfl (by decide +kernel) ⟨rfl, rfl⟩ (by decide) ⟨Nat.zero_le _, Nat.zero_le _⟩ rfl (Nat.le_of_ble_eq_true rfl) dX7_character_95 (fun H locs hw => ?_)
      obtain ⟨s95, es95, hw⟩ := nmD hw
      have hI95 : Bx s95 := by rw [es95]; exact bx_X7_lineFeed hI84
      exact J98 _ _ _ _ _ _ hw (lv_sub hl [0, 1, 2] rfl) hI95 (by subst es95 es84; exact (Eq.trans e0 (Eq.trans (if_neg c79) rfl)))
    · exact ret (congrArg (pdW a cA) (by exact (Eq.trans e0 (Eq.trans (if_pos c79) rfl)))) hw dX7_character_82
  have J35 : ∀ (σ : PS) (y1 : Int32) (k0 : Int32) (H : Heap) (locs : List Loc) (ls : Array Slot), WD D A s.heap (pdW a cA σ) H locs → lv_has ls 4 [(0, .ref (a 0)), (1, .int y1)] → Bx σ → f_X7_character σ0 x1 = g_X7_character_35 σ y1 k0 → W p l e rm_X7_character s m args below meth c H locs 0 0 Q (F0 m 35 ls [.int k0]) := by
    intro σ y1 k0 H locs ls hw hl hI e0
    refine lv_istore_n (lv' := [(3, .int k0), (0, .ref (a 0)), (1, .int y1)]) K.1 K.2.1 dX7_character_35 rfl hl (by decide) rfl (fun ls hl => ?_)
    refine lv_aload_n K.1 K.2.1 dX7_character_36 rfl (lv_at hl 1 rfl) ?_
    refine gD_0_2 K hw kf_X7_26 dX7_character_37 ?_
    refine gD_3_6 K hw kf_X7_105 dX7_character_40 ?_
    refine lv_aload_n K.1 K.2.1 dX7_character_43 rfl (lv_at hl 1 rfl) ?_
    refine gD_0_2 K hw kf_X7_26 dX7_character_44 ?_
    refine gD_3_3 K hw kf_X7_102 dX7_character_47 ?_
    refine lv_icmp_ge (tgt := 72) K.1 K.2.1 dX7_character_50 (by decide) (fun c50 => ?_) (fun c50 => ?_)
    · exact J72 _ _ _ _ _ _ hw (lv_sub hl [1, 2, 0] rfl) hI (by exact (Eq.trans e0 (Eq.trans (if_pos c50) rfl)))
    · refine lv_aload_n K.1 K.2.1 dX7_character_53 rfl (lv_at hl 1 rfl) ?_
      refine gD_0_2 K hw kf_X7_26 dX7_character_54 ?_
      refine gD_3_6 K hw kf_X7_105 dX7_character_57 ?_
      refine lv_iload_n K.1 K.2.1 dX7_character_60 rfl (lv_at hl 0 rfl) ?_
      refine lv_iadd K.1 K.2.1 dX7_character_61 ?_
      refine lv_aload_n K.1 K.2.1 dX7_character_62 rfl (lv_at hl 1 rfl) ?_
      refine gD_0_2 K hw kf_X7_26 dX7_character_63 ?_
      refine gD_3_3 K hw kf_X7_102 dX7_character_66 ?_
      refine lv_icmp_le (tgt := 98) K.1 K.2.1 dX7_character_69 (by decide) (fun c69 => ?_) (fun c69 => ?_)
      · exact J98 _ _ _ _ _ _ hw (lv_sub hl [1, 2, 0] rfl) hI (by exact (Eq.trans e0 (Eq.trans (if_neg c50) (Eq.trans (if_pos c69) rfl))))
      · exact J72 _ _ _ _ _ _ hw (lv_sub hl [1, 2, 0] rfl) hI (by exact (Eq.trans e0 (Eq.trans (if_neg c50) (Eq.trans (if_neg c69) rfl))))
  refine lv_aload_n K.1 K.2.1 dX7_character_0 rfl (lv_at hl 0 rfl) ?_
  refine gD_0_8 K hw kf_X7_59 dX7_character_1 ?_
  refine lv_aload_n K.1 K.2.1 dX7_character_4 rfl (lv_at hl 0 rfl) ?_
  refine gD_0_2 K hw kf_X7_26 dX7_character_5 ?_
  refine gD_3_11 K hw kf_X7_184 dX7_character_8 ?_
  refine lv_sipush (v := 256) K.1 K.2.1 dX7_character_11 (by decide) ?_
  refine lv_imul K.1 K.2.1 dX7_character_14 ?_
  refine lv_iload_n K.1 K.2.1 dX7_character_15 rfl (lv_at hl 1 rfl) ?_
  refine lv_iadd K.1 K.2.1 dX7_character_16 ?_
  refine lD_7 K hw (vTold (bxg_29 (σ := σ0) hI) hb) rfl dX7_character_17 ?_
  refine lv_topi (fun x2_18 ex2_18 => ?_)
  refine lv_istore_n (lv' := [(2, .int x2_18), (0, .ref (a 0)), (1, .int x1)]) K.1 K.2.1 dX7_character_18 rfl hl (by decide) rfl (fun ls hl => ?_)
  refine lv_iload_n K.1 K.2.1 dX7_character_19 rfl (lv_at hl 0 rfl) ?_
  refine lv_iconst (v := (-1)) K.1 K.2.1 dX7_character_20 (by decide) ?_
  refine lv_icmp_ne (tgt := 34) K.1 K.2.1 dX7_character_21 (by decide) (fun c21 => ?_) (fun c21 => ?_)
  · refine lv_iload_n K.1 K.2.1 dX7_character_34 rfl (lv_at hl 0 rfl) ?_
    exact J35 _ _ _ _ _ _ hw (lv_sub hl [1, 2] rfl) hI (by subst ex2_18; exact (Eq.trans (if_neg c21) rfl))
  · refine lv_aload_n K.1 K.2.1 dX7_character_24 rfl (lv_at hl 1 rfl) ?_
    refine gD_0_2 K hw kf_X7_26 dX7_character_25 ?_
    refine gD_3_4 K hw kf_X7_157 dX7_character_28 ?_
    refine lv_goto (tgt := 35) K.1 K.2.1 dX7_character_31 (by decide) ?_
    exact J35 _ _ _ _ _ _ hw (lv_sub hl [1, 2] rfl) hI (by subst ex2_18; exact (Eq.trans (if_pos c21) rfl))
def g_X7_backspace_28 (σ : PS) (k0 : Int32) : PS := let s59 : PS := f_X7_setX σ (Int32.toInt64 (f_X7_within ((Int32.toInt64 (σ.1 24)) - (Int32.toInt64 (σ.1 22))) k0 (σ.1 16))); s59
def f_X7_backspace (σ0 : PS) : PS := (if (σ0.1 20) ≤ (σ0.1 24) then (g_X7_backspace_28 σ0 (σ0.1 20)) else (g_X7_backspace_28 σ0 0))
theorem bx_g_X7_backspace_28 {σ : PS} {k0 : Int32} (hI : Bx σ) : Bx (g_X7_backspace_28 σ k0) := (bx_X7_setX hI)
theorem bx_X7_backspace {σ0 : PS} (hI : Bx σ0) : Bx (f_X7_backspace σ0) := (bxI (fun c14 => (bx_g_X7_backspace_28 hI)) (fun c14 => (bx_g_X7_backspace_28 hI)))
abbrev rm_X7_backspace : Room := { frames := 2, cells := 0, slots := 0, locals := 45 }
set_option maxHeartbeats 4000000 in
set_option maxRecDepth 100000 in
theorem c_X7_backspace (l : Launch) (D : va_G) (a : Nat → Nat) (cA : Nat → ClassId) (σ0 : PS) : CV l yX7_backspace cX7_backspace 2 rm_X7_backspace D (pdT cA) [.ref (a 0)] (pdW a cA σ0) (pdW a cA (f_X7_backspace σ0)) := by
  refine en_v (by decide +kernel) (Nat.le_of_ble_eq_true rfl) ?_
  intro p e s m args below meth c A ls Q K hw hl ret
  have hl : lv_has ls 2 [(0, .ref (a 0))] := hl
  have J28 : ∀ (σ : PS) (k0 : Int32) (H : Heap) (locs : List Loc) (ls : Array Slot), WD D A s.heap (pdW a cA σ) H locs → lv_has ls 2 [(0, .ref (a 0))] → f_X7_backspace σ0 = g_X7_backspace_28 σ k0 → W p l e rm_X7_backspace s m args below meth c H locs 0 0 Q (F0 m 28 ls [.int k0]) := by
    intro σ k0 H locs ls hw hl e0
    refine lv_istore_n (lv' := [(1, .int k0), (0, .ref (a 0))]) K.1 K.2.1 dX7_backspace_28 rfl hl (by decide) rfl (fun ls hl => ?_)
    refine lv_aload_n K.1 K.2.1 dX7_backspace_29 rfl (lv_at hl 1 rfl) ?_
    refine lv_aload_n K.1 K.2.1 dX7_backspace_30 rfl (lv_at hl 1 rfl) ?_
    refine gD_0_2 K hw kf_X7_26 dX7_backspace_31 ?_
    refine gD_3_6 K hw kf_X7_105 dX7_backspace_34 ?_
    refine lv_i2l K.1 K.2.1 dX7_backspace_37 rfl ?_
    refine lv_aload_n K.1 K.2.1 dX7_backspace_38 rfl (lv_at hl 1 rfl) ?_
    refine gD_0_2 K hw kf_X7_26 dX7_backspace_39 ?_
    refine gD_3_4 K hw kf_X7_157 dX7_backspace_42 ?_
    refine lv_i2l K.1 K.2.1 dX7_backspace_45 rfl ?_
    refine lv_lsub K.1 K.2.1 dX7_backspace_46 ?_
    refine lv_iload_n K.1 K.2.1 dX7_backspace_47 rfl (lv_at hl 0 rfl) ?_
    refine lv_aload_n K.1 K.2.1 dX7_backspace_48 rfl (lv_at hl 1 rfl) ?_
    refine gD_0_1 K hw kf_X7_19 dX7_backspace_49 ?_
    refine gD_2_3 K hw kf_X7_95 dX7_backspace_52 ?_
    refine caS K hw (c_X7_within l D a cA _ _ _ _) hl.1 km_X7_98 kS_X7_within ki_X7 kC_X7_within (na := 3) rfl (by decide +kernel) ⟨rfl, rfl⟩ (by decide) ⟨Nat.zero_le _, Nat.zero_le _⟩ rfl (Nat.le_of_ble_eq_true rfl) dX7_backspace_55 (fun H locs hw => ?_)
    refine lv_i2l K.1 K.2.1 dX7_backspace_58 rfl ?_
    refine caV K hw (c_X7_setX l D a cA _ _) hl.1 (tt_V km_X7_80 kI_X7_setX ks_X7_setX ki_X7 kC_X7_setX) 0 (ci := 7) rfl rfl rfl (na := 1) rfl (by decide +kernel) ⟨rfl, rfl⟩ (by decide) ⟨Nat.zero_le _, Nat.zero_le _⟩ rfl (Nat.le_of_ble_eq_true rfl) dX7_backspace_59 (fun H locs hw => ?_)
    obtain ⟨s59, es59, hw⟩ := nmD hw
    exact ret (congrArg (pdW a cA) (by subst es59; exact (Eq.trans e0 rfl))) hw dX7_backspace_62
  refine lv_aload_n K.1 K.2.1 dX7_backspace_0 rfl (lv_at hl 0 rfl) ?_
  refine gD_0_2 K hw kf_X7_26 dX7_backspace_1 ?_
  refine gD_3_6 K hw kf_X7_105 dX7_backspace_4 ?_
  refine lv_aload_n K.1 K.2.1 dX7_backspace_7 rfl (lv_at hl 0 rfl) ?_
  refine gD_0_2 K hw kf_X7_26 dX7_backspace_8 ?_
  refine gD_3_2 K hw kf_X7_91 dX7_backspace_11 ?_
  refine lv_icmp_ge (tgt := 21) K.1 K.2.1 dX7_backspace_14 (by decide) (fun c14 => ?_) (fun c14 => ?_)
  · refine lv_aload_n K.1 K.2.1 dX7_backspace_21 rfl (lv_at hl 0 rfl) ?_
    refine gD_0_2 K hw kf_X7_26 dX7_backspace_22 ?_
    refine gD_3_2 K hw kf_X7_91 dX7_backspace_25 ?_
    exact J28 _ _ _ _ _ hw (lv_sub hl [0] rfl) (by exact (Eq.trans (if_pos c14) rfl))
  · refine lv_iconst (v := 0) K.1 K.2.1 dX7_backspace_17 (by decide) ?_
    refine lv_goto (tgt := 28) K.1 K.2.1 dX7_backspace_18 (by decide) ?_
    exact J28 _ _ _ _ _ hw (lv_sub hl [0] rfl) (by exact (Eq.trans (if_neg c14) rfl))
def f_X7_tab (σ0 : PS) : PS := (if (σ0.1 20) ≤ (σ0.1 24) then let x1_44 : Int64 := (8 * (Int32.toInt64 (σ0.1 22))); (if x1_44 ≤ 0 then σ0 else let x3_71 : Int64 := (((Int32.toInt64 ((σ0.1 24) - (σ0.1 20))) / x1_44) + 1); let s97 : PS := f_X7_setX σ0 (Int32.toInt64 (f_X7_within ((Int32.toInt64 (σ0.1 20)) + (x1_44 * x3_71)) 0 (σ0.1 21))); s97) else (upS σ0 24 (σ0.1 20)))
theorem bx_X7_tab {σ0 : PS} (hI : Bx σ0) : Bx (f_X7_tab σ0) := (bxI (fun c14 => (bxI (fun c47 => hI) (fun c47 => (bx_X7_setX hI)))) (fun c14 => (bxS_24 hI)))
abbrev rm_X7_tab : Room := { frames := 2, cells := 0, slots := 0, locals := 45 }
set_option maxHeartbeats 4000000 in
set_option maxRecDepth 100000 in
theorem c_X7_tab (l : Launch) (D : va_G) (a : Nat → Nat) (cA : Nat → ClassId) (σ0 : PS) : CV l yX7_tab cX7_tab 5 rm_X7_tab D (pdT cA) [.ref (a 0)] (pdW a cA σ0) (pdW a cA (f_X7_tab σ0)) := by
  refine en_v (by decide +kernel) (Nat.le_of_ble_eq_true rfl) ?_
  intro p e s m args below meth c A ls Q K hw hl ret
  have hl : lv_has ls 5 [(0, .ref (a 0))] := hl
  refine lv_aload_n K.1 K.2.1 dX7_tab_0 rfl (lv_at hl 0 rfl) ?_
  refine gD_0_2 K hw kf_X7_26 dX7_tab_1 ?_
  refine gD_3_6 K hw kf_X7_105 dX7_tab_4 ?_
  refine lv_aload_n K.1 K.2.1 dX7_tab_7 rfl (lv_at hl 0 rfl) ?_
  refine gD_0_2 K hw kf_X7_26 dX7_tab_8 ?_
  refine gD_3_2 K hw kf_X7_91 dX7_tab_11 ?_
  refine lv_icmp_ge (tgt := 32) K.1 K.2.1 dX7_tab_14 (by decide) (fun c14 => ?_) (fun c14 => ?_)
  · refine lv_ldc2 K.1 K.2.1 K.2.2.2.1 (K.2.2.1 _ kc_X7_264) dX7_tab_32 ?_
    refine lv_aload_n K.1 K.2.1 dX7_tab_35 rfl (lv_at hl 0 rfl) ?_
    refine gD_0_2 K hw kf_X7_26 dX7_tab_36 ?_
    refine gD_3_4 K hw kf_X7_157 dX7_tab_39 ?_
    refine lv_i2l K.1 K.2.1 dX7_tab_42 rfl ?_
    refine lv_lmul K.1 K.2.1 dX7_tab_43 ?_
    refine lv_topl (fun x1_44 ex1_44 => ?_)
    refine lv_lstore_n (lv' := [(1, .long x1_44), (0, .ref (a 0))]) K.1 K.2.1 dX7_tab_44 rfl hl (by decide) rfl (fun ls hl => ?_)
    refine lv_lload_n K.1 K.2.1 dX7_tab_45 rfl (lv_at hl 0 rfl) ?_
    refine lv_lconst (v := 0) K.1 K.2.1 dX7_tab_46 (by decide) ?_
    refine lc_le (tgt := 100) K dX7_tab_47 dX7_tab_48 (by decide) (fun c47 => ?_) (fun c47 => ?_)
    · exact ret (congrArg (pdW a cA) (by subst ex1_44; exact (Eq.trans (if_pos c14) (Eq.trans (if_pos c47) rfl)))) hw dX7_tab_100
    · refine lv_aload_n K.1 K.2.1 dX7_tab_51 rfl (lv_at hl 1 rfl) ?_
      refine gD_0_2 K hw kf_X7_26 dX7_tab_52 ?_
      refine gD_3_6 K hw kf_X7_105 dX7_tab_55 ?_
      refine lv_aload_n K.1 K.2.1 dX7_tab_58 rfl (lv_at hl 1 rfl) ?_
      refine gD_0_2 K hw kf_X7_26 dX7_tab_59 ?_
      refine gD_3_2 K hw kf_X7_91 dX7_tab_62 ?_
      refine lv_isub K.1 K.2.1 dX7_tab_65 ?_
      refine lv_i2l K.1 K.2.1 dX7_tab_66 rfl ?_
      refine lv_lload_n K.1 K.2.1 dX7_tab_67 rfl (lv_at hl 0 rfl) ?_
      refine lv_ldiv K.1 K.2.1 dX7_tab_68 (neL c47) ?_
      refine lv_lconst (v := 1) K.1 K.2.1 dX7_tab_69 (by decide) ?_
      refine lv_ladd K.1 K.2.1 dX7_tab_70 ?_
      refine lv_topl (fun x3_71 ex3_71 => ?_)
      refine lv_lstore_n (lv' := [(3, .long x3_71), (1, .long x1_44), (0, .ref (a 0))]) K.1 K.2.1 dX7_tab_71 rfl hl (by decide) rfl (fun ls hl => ?_)
      refine lv_aload_n K.1 K.2.1 dX7_tab_72 rfl (lv_at hl 2 rfl) ?_
      refine lv_aload_n K.1 K.2.1 dX7_tab_73 rfl (lv_at hl 2 rfl) ?_
      refine gD_0_2 K hw kf_X7_26 dX7_tab_74 ?_
      refine gD_3_2 K hw kf_X7_91 dX7_tab_77 ?_
      refine lv_i2l K.1 K.2.1 dX7_tab_80 rfl ?_
      refine lv_lload_n K.1 K.2.1 dX7_tab_81 rfl (lv_at hl 1 rfl) ?_
      refine lv_lload_n K.1 K.2.1 dX7_tab_82 rfl (lv_at hl 0 rfl) ?_
      refine lv_lmul K.1 K.2.1 dX7_tab_83 ?_
      refine lv_ladd K.1 K.2.1 dX7_tab_84 ?_
      refine lv_iconst (v := 0) K.1 K.2.1 dX7_tab_85 (by decide) ?_
      refine lv_aload_n K.1 K.2.1 dX7_tab_86 rfl (lv_at hl 2 rfl) ?_
      refine gD_0_2 K hw kf_X7_26 dX7_tab_87 ?_
      refine gD_3_3 K hw kf_X7_102 dX7_tab_90 ?_
      refine caS K hw (c_X7_within l D a cA _ _ _ _) hl.1 km_X7_98 kS_X7_within ki_X7 kC_X7_within (na := 3) rfl (by decide +kernel) ⟨rfl, rfl⟩ (by decide) ⟨Nat.zero_le _, Nat.zero_le _⟩ rfl (Nat.le_of_ble_eq_true rfl) dX7_tab_93 (fun H locs hw => ?_)
      refine lv_i2l K.1 K.2.1 dX7_tab_96 rfl ?_
      refine caV K hw (c_X7_setX l D a cA _ _) hl.1 (tt_V km_X7_80 kI_X7_setX ks_X7_setX ki_X7 kC_X7_setX) 0 (ci := 7) rfl rfl rfl (na := 1) rfl (by decide +kernel) ⟨rfl, rfl⟩ (by decide) ⟨Nat.zero_le _, Nat.zero_le _⟩ rfl (Nat.le_of_ble_eq_true rfl) dX7_tab_97 (fun H locs hw => ?_)
      obtain ⟨s97, es97, hw⟩ := nmD hw
      exact ret (congrArg (pdW a cA) (by subst es97 ex3_71 ex1_44; exact (Eq.trans (if_pos c14) (Eq.trans (if_neg c47) rfl)))) hw dX7_tab_100
  · refine lv_aload_n K.1 K.2.1 dX7_tab_17 rfl (lv_at hl 0 rfl) ?_
    refine gD_0_2 K hw kf_X7_26 dX7_tab_18 ?_
    refine lv_aload_n K.1 K.2.1 dX7_tab_21 rfl (lv_at hl 0 rfl) ?_
    refine gD_0_2 K hw kf_X7_26 dX7_tab_22 ?_
    refine gD_3_2 K hw kf_X7_91 dX7_tab_25 ?_
    refine pD_3_6 K hw kf_X7_105 dX7_tab_28 (fun H locs hw => ?_)
    exact ret (congrArg (pdW a cA) (by exact (Eq.trans (if_neg c14) rfl))) hw dX7_tab_31
def f_X7_returnIfLineEndsSo (σ0 : PS) : PS := (if (σ0.1 28) < 2 then σ0 else let s12 : PS := f_X7_carriageReturn σ0; s12)
theorem bx_X7_returnIfLineEndsSo {σ0 : PS} (hI : Bx σ0) : Bx (f_X7_returnIfLineEndsSo σ0) := (bxI (fun c8 => hI) (fun c8 => (bx_X7_carriageReturn hI)))
abbrev rm_X7_returnIfLineEndsSo : Room := { frames := 1, cells := 0, slots := 0, locals := 20 }
set_option maxHeartbeats 4000000 in
set_option maxRecDepth 100000 in
theorem c_X7_returnIfLineEndsSo (l : Launch) (D : va_G) (a : Nat → Nat) (cA : Nat → ClassId) (σ0 : PS) : CV l yX7_returnIfLineEndsSo cX7_returnIfLineEndsSo 1 rm_X7_returnIfLineEndsSo D (pdT cA) [.ref (a 0)] (pdW a cA σ0) (pdW a cA (f_X7_returnIfLineEndsSo σ0)) := by
  refine en_v (by decide +kernel) (Nat.le_of_ble_eq_true rfl) ?_
  intro p e s m args below meth c A ls Q K hw hl ret
  have hl : lv_has ls 1 [(0, .ref (a 0))] := hl
  refine lv_aload_n K.1 K.2.1 dX7_returnIfLineEndsSo_0 rfl (lv_at hl 0 rfl) ?_
  refine gD_0_2 K hw kf_X7_26 dX7_returnIfLineEndsSo_1 ?_
  refine gD_3_10 K hw kf_X7_178 dX7_returnIfLineEndsSo_4 ?_
  refine lv_iconst (v := 2) K.1 K.2.1 dX7_returnIfLineEndsSo_7 (by decide) ?_
  refine lv_icmp_lt (tgt := 15) K.1 K.2.1 dX7_returnIfLineEndsSo_8 (by decide) (fun c8 => ?_) (fun c8 => ?_)
  · exact ret (congrArg (pdW a cA) (by exact (Eq.trans (if_pos c8) rfl))) hw dX7_returnIfLineEndsSo_15
  · refine lv_aload_n K.1 K.2.1 dX7_returnIfLineEndsSo_11 rfl (lv_at hl 0 rfl) ?_
    refine caV K hw (c_X7_carriageReturn l D a cA _) hl.1 (tt_V km_X7_242 kI_X7_carriageReturn ks_X7_carriageReturn ki_X7 kC_X7_carriageReturn) 0 (ci := 7) rfl rfl rfl (na := 0) rfl (by decide +kernel) ⟨rfl, rfl⟩ (by decide) ⟨Nat.zero_le _, Nat.zero_le _⟩ rfl (Nat.le_of_ble_eq_true rfl) dX7_returnIfLineEndsSo_12 (fun H locs hw => ?_)
    obtain ⟨s12, es12, hw⟩ := nmD hw
    exact ret (congrArg (pdW a cA) (by subst es12; exact (Eq.trans (if_neg c8) rfl))) hw dX7_returnIfLineEndsSo_15
def g_X7_returnWithLineEnd_26 (σ : PS) : PS := let s34 : PS := f_X7_lineFeed σ (σ.1 23); s34
def f_X7_returnWithLineEnd (σ0 : PS) : PS := let s1 : PS := f_X7_carriageReturn σ0; (if (s1.1 28) = 1 then (g_X7_returnWithLineEnd_26 s1) else (if (s1.1 28) = 3 then (g_X7_returnWithLineEnd_26 s1) else s1))
theorem bx_g_X7_returnWithLineEnd_26 {σ : PS} (hI : Bx σ) : Bx (g_X7_returnWithLineEnd_26 σ) := (bx_X7_lineFeed hI)
theorem bx_X7_returnWithLineEnd {σ0 : PS} (hI : Bx σ0) : Bx (f_X7_returnWithLineEnd σ0) := (bxI (fun c12 => (bx_g_X7_returnWithLineEnd_26 (bx_X7_carriageReturn hI))) (fun c12 => (bxI (fun c23 => (bx_g_X7_returnWithLineEnd_26 (bx_X7_carriageReturn hI))) (fun c23 => (bx_X7_carriageReturn hI)))))
abbrev rm_X7_returnWithLineEnd : Room := { frames := 4, cells := 0, slots := 0, locals := 87 }
set_option maxHeartbeats 4000000 in
set_option maxRecDepth 100000 in
theorem c_X7_returnWithLineEnd (l : Launch) (D : va_G) (a : Nat → Nat) (cA : Nat → ClassId) (σ0 : PS) : CV l yX7_returnWithLineEnd cX7_returnWithLineEnd 1 rm_X7_returnWithLineEnd D (pdT cA) [.ref (a 0)] (pdW a cA σ0) (pdW a cA (f_X7_returnWithLineEnd σ0)) := by
  refine en_v (by decide +kernel) (Nat.le_of_ble_eq_true rfl) ?_
  intro p e s m args below meth c A ls Q K hw hl ret
  have hl : lv_has ls 1 [(0, .ref (a 0))] := hl
  have J26 : ∀ (σ : PS) (H : Heap) (locs : List Loc) (ls : Array Slot), WD D A s.heap (pdW a cA σ) H locs → lv_has ls 1 [(0, .ref (a 0))] → f_X7_returnWithLineEnd σ0 = g_X7_returnWithLineEnd_26 σ → W p l e rm_X7_returnWithLineEnd s m args below meth c H locs 0 0 Q (F0 m 26 ls []) := by
    intro σ H locs ls hw hl e0
    refine lv_aload_n K.1 K.2.1 dX7_returnWithLineEnd_26 rfl (lv_at hl 0 rfl) ?_
    refine lv_aload_n K.1 K.2.1 dX7_returnWithLineEnd_27 rfl (lv_at hl 0 rfl) ?_
    refine gD_0_2 K hw kf_X7_26 dX7_returnWithLineEnd_28 ?_
    refine gD_3_5 K hw kf_X7_160 dX7_returnWithLineEnd_31 ?_
    refine caV K hw (c_X7_lineFeed l D a cA _ _) hl.1 (tt_V km_X7_245 kI_X7_lineFeed ks_X7_lineFeed ki_X7 kC_X7_lineFeed) 0 (ci := 7) rfl rfl rfl (na := 1) rfl (by decide +kernel) ⟨rfl, rfl⟩ (by decide) ⟨Nat.zero_le _, Nat.zero_le _⟩ rfl (Nat.le_of_ble_eq_true rfl) dX7_returnWithLineEnd_34 (fun H locs hw => ?_)
    obtain ⟨s34, es34, hw⟩ := nmD hw
    exact ret (congrArg (pdW a cA) (by subst es34; exact (Eq.trans e0 rfl))) hw dX7_returnWithLineEnd_37
  refine lv_aload_n K.1 K.2.1 dX7_returnWithLineEnd_0 rfl (lv_at hl 0 rfl) ?_
  refine caV K hw (c_X7_carriageReturn l D a cA _) hl.1 (tt_V km_X7_242 kI_X7_carriageReturn ks_X7_carriageReturn ki_X7 kC_X7_carriageReturn) 0 (ci := 7) rfl rfl rfl (na := 0) rfl (by decide +kernel) ⟨rfl, rfl⟩ (by decide) ⟨Nat.zero_le _, Nat.zero_le _⟩ rfl (Nat.le_of_ble_eq_true rfl) dX7_returnWithLineEnd_1 (fun H locs hw => ?_)
  obtain ⟨s1, es1, hw⟩ := nmD hw
  refine lv_aload_n K.1 K.2.1 dX7_returnWithLineEnd_4 rfl (lv_at hl 0 rfl) ?_
  refine gD_0_2 K hw kf_X7_26 dX7_returnWithLineEnd_5 ?_
  refine gD_3_10 K hw kf_X7_178 dX7_returnWithLineEnd_8 ?_
  refine lv_iconst (v := 1) K.1 K.2.1 dX7_returnWithLineEnd_11 (by decide) ?_
  refine lv_icmp_eq (tgt := 26) K.1 K.2.1 dX7_returnWithLineEnd_12 (by decide) (fun c12 => ?_) (fun c12 => ?_)
  · exact J26 _ _ _ _ hw (lv_sub hl [0] rfl) (by subst es1; exact (Eq.trans (if_pos c12) rfl))
  · refine lv_aload_n K.1 K.2.1 dX7_returnWithLineEnd_15 rfl (lv_at hl 0 rfl) ?_
    refine gD_0_2 K hw kf_X7_26 dX7_returnWithLineEnd_16 ?_
    refine gD_3_10 K hw kf_X7_178 dX7_returnWithLineEnd_19 ?_
    refine lv_iconst (v := 3) K.1 K.2.1 dX7_returnWithLineEnd_22 (by decide) ?_
    refine lv_icmp_ne (tgt := 37) K.1 K.2.1 dX7_returnWithLineEnd_23 (by decide) (fun c23 => ?_) (fun c23 => ?_)
    · exact ret (congrArg (pdW a cA) (by subst es1; exact (Eq.trans (if_neg c12) (Eq.trans (if_neg c23) rfl)))) hw dX7_returnWithLineEnd_37
    · exact J26 _ _ _ _ hw (lv_sub hl [0] rfl) (by subst es1; exact (Eq.trans (if_neg c12) (Eq.trans (if_pos c23) rfl)))
def f_X7_controlCode (σ0 : PS) (x1 : Int32) : PS := (if x1 = 8 then let s49 : PS := f_X7_backspace σ0; s49 else (if x1 = 9 then let s56 : PS := f_X7_tab σ0; s56 else (if x1 = 10 then let s63 : PS := f_X7_returnIfLineEndsSo σ0; let s74 : PS := f_X7_lineFeed s63 (s63.1 23); s74 else (if x1 = 11 then σ0 else (if x1 = 12 then let s81 : PS := f_X7_returnIfLineEndsSo σ0; let s85 : PS := f_X7_eject s81; s85 else (if x1 = 13 then let s92 : PS := f_X7_returnWithLineEnd σ0; s92 else (if x1 = 14 then (upS σ0 29 1) else (if x1 = 15 then (upS σ0 29 0) else σ0))))))))
theorem bx_X7_controlCode {σ0 : PS} {x1 : Int32} (hI : Bx σ0) : Bx (f_X7_controlCode σ0 x1) := (bxI (fun c1_8 => (bx_X7_backspace hI)) (fun c1_8 => (bxI (fun c1_9 => (bx_X7_tab hI)) (fun c1_9 => (bxI (fun c1_10 => (bx_X7_lineFeed (bx_X7_returnIfLineEndsSo hI))) (fun c1_10 => (bxI (fun c1_11 => hI) (fun c1_11 => (bxI (fun c1_12 => (bx_X7_eject (bx_X7_returnIfLineEndsSo hI))) (fun c1_12 => (bxI (fun c1_13 => (bx_X7_returnWithLineEnd hI)) (fun c1_13 => (bxI (fun c1_14 => (bxQ_29 hI (by decide) (by decide))) (fun c1_14 => (bxI (fun c1_15 => (bxQ_29 hI (by decide) (by decide))) (fun c1_15 => hI))))))))))))))))
abbrev rm_X7_controlCode : Room := { frames := 5, cells := 0, slots := 0, locals := 107 }
set_option maxHeartbeats 4000000 in
set_option maxRecDepth 100000 in
theorem c_X7_controlCode (l : Launch) (D : va_G) (a : Nat → Nat) (cA : Nat → ClassId) (σ0 : PS) (x1 : Int32) : CV l yX7_controlCode cX7_controlCode 2 rm_X7_controlCode D (pdT cA) [.ref (a 0), .int x1] (pdW a cA σ0) (pdW a cA (f_X7_controlCode σ0 x1)) := by
  refine en_v (by decide +kernel) (Nat.le_of_ble_eq_true rfl) ?_
  intro p e s m args below meth c A ls Q K hw hl ret
  have hl : lv_has ls 2 [(0, .ref (a 0)), (1, .int x1)] := hl
  refine lv_iload_n K.1 K.2.1 dX7_controlCode_0 rfl (lv_at hl 1 rfl) ?_
  refine sw_t K dX7_controlCode_1 (k := 8) (tgt := 48) (by decide) (by decide) (fun c1_8 => ?_) (fun c1_8 => ?_)
  · refine lv_aload_n K.1 K.2.1 dX7_controlCode_48 rfl (lv_at hl 0 rfl) ?_
    refine caV K hw (c_X7_backspace l D a cA _) hl.1 (tt_V km_X7_252 kI_X7_backspace ks_X7_backspace ki_X7 kC_X7_backspace) 0 (ci := 7) rfl rfl rfl (na := 0) rfl (by decide +kernel) ⟨rfl, rfl⟩ (by decide) ⟨Nat.zero_le _, Nat.zero_le _⟩ rfl (Nat.le_of_ble_eq_true rfl) dX7_controlCode_49 (fun H locs hw => ?_)
    obtain ⟨s49, es49, hw⟩ := nmD hw
    refine lv_goto (tgt := 120) K.1 K.2.1 dX7_controlCode_52 (by decide) ?_
    exact ret (congrArg (pdW a cA) (by subst es49; exact (Eq.trans (if_pos c1_8) rfl))) hw dX7_controlCode_120
  · refine sw_t K dX7_controlCode_1 (k := 9) (tgt := 55) (by decide) (by decide) (fun c1_9 => ?_) (fun c1_9 => ?_)
    · refine lv_aload_n K.1 K.2.1 dX7_controlCode_55 rfl (lv_at hl 0 rfl) ?_
      refine caV K hw (c_X7_tab l D a cA _) hl.1 (tt_V km_X7_255 kI_X7_tab ks_X7_tab ki_X7 kC_X7_tab) 0 (ci := 7) rfl rfl rfl (na := 0) rfl (by decide +kernel) ⟨rfl, rfl⟩ (by decide) ⟨Nat.zero_le _, Nat.zero_le _⟩ rfl (Nat.le_of_ble_eq_true rfl) dX7_controlCode_56 (fun H locs hw => ?_)
      obtain ⟨s56, es56, hw⟩ := nmD hw
      refine lv_goto (tgt := 120) K.1 K.2.1 dX7_controlCode_59 (by decide) ?_
      exact ret (congrArg (pdW a cA) (by subst es56; exact (Eq.trans (if_neg c1_8) (Eq.trans (if_pos c1_9) rfl)))) hw dX7_controlCode_120
    · refine sw_t K dX7_controlCode_1 (k := 10) (tgt := 62) (by decide) (by decide) (fun c1_10 => ?_) (fun c1_10 => ?_)
      · refine lv_aload_n K.1 K.2.1 dX7_controlCode_62 rfl (lv_at hl 0 rfl) ?_
        refine caV K hw (c_X7_returnIfLineEndsSo l D a cA _) hl.1 (tt_V km_X7_258 kI_X7_returnIfLineEndsSo ks_X7_returnIfLineEndsSo ki_X7 kC_X7_returnIfLineEndsSo) 0 (ci := 7) rfl rfl rfl (na := 0) rfl (by decide +kernel) ⟨rfl, rfl⟩ (by decide) ⟨Nat.zero_le _, Nat.zero_le _⟩ rfl (Nat.le_of_ble_eq_true rfl) dX7_controlCode_63 (fun H locs hw => ?_)
        obtain ⟨s63, es63, hw⟩ := nmD hw
        refine lv_aload_n K.1 K.2.1 dX7_controlCode_66 rfl (lv_at hl 0 rfl) ?_
        refine lv_aload_n K.1 K.2.1 dX7_controlCode_67 rfl (lv_at hl 0 rfl) ?_
        refine gD_0_2 K hw kf_X7_26 dX7_controlCode_68 ?_
        refine gD_3_5 K hw kf_X7_160 dX7_controlCode_71 ?_
        refine caV K hw (c_X7_lineFeed l D a cA _ _) hl.1 (tt_V km_X7_245 kI_X7_lineFeed ks_X7_lineFeed ki_X7 kC_X7_lineFeed) 0 (ci := 7) rfl rfl rfl (na := 1) rfl (by decide +kernel) ⟨rfl, rfl⟩ (by decide) ⟨Nat.zero_le _, Nat.zero_le _⟩ rfl (Nat.le_of_ble_eq_true rfl) dX7_controlCode_74 (fun H locs hw => ?_)
        obtain ⟨s74, es74, hw⟩ := nmD hw
        refine lv_goto (tgt := 120) K.1 K.2.1 dX7_controlCode_77 (by decide) ?_
        exact ret (congrArg (pdW a cA) (by subst es74 es63; exact (Eq.trans (if_neg c1_8) (Eq.trans (if_neg c1_9) (Eq.trans (if_pos c1_10) rfl))))) hw dX7_controlCode_120
      · refine sw_t K dX7_controlCode_1 (k := 11) (tgt := 120) (by decide) (by decide) (fun c1_11 => ?_) (fun c1_11 => ?_)
        · exact ret (congrArg (pdW a cA) (by exact (Eq.trans (if_neg c1_8) (Eq.trans (if_neg c1_9) (Eq.trans (if_neg c1_10) (Eq.trans (if_pos c1_11) rfl)))))) hw dX7_controlCode_120
        · refine sw_t K dX7_controlCode_1 (k := 12) (tgt := 80) (by decide) (by decide) (fun c1_12 => ?_) (fun c1_12 => ?_)
          · refine lv_aload_n K.1 K.2.1 dX7_controlCode_80 rfl (lv_at hl 0 rfl) ?_
            refine caV K hw (c_X7_returnIfLineEndsSo l D a cA _) hl.1 (tt_V km_X7_258 kI_X7_returnIfLineEndsSo ks_X7_returnIfLineEndsSo ki_X7 kC_X7_returnIfLineEndsSo) 0 (ci := 7) rfl rfl rfl (na := 0) rfl (by decide +kernel) ⟨rfl, rfl⟩ (by decide) ⟨Nat.zero_le _, Nat.zero_le _⟩ rfl (Nat.le_of_ble_eq_true rfl) dX7_controlCode_81 (fun H locs hw => ?_)
            obtain ⟨s81, es81, hw⟩ := nmD hw
            refine lv_aload_n K.1 K.2.1 dX7_controlCode_84 rfl (lv_at hl 0 rfl) ?_
            refine caV K hw (c_X7_eject l D a cA _) hl.1 (tt_V km_X7_229 kI_X7_eject ks_X7_eject ki_X7 kC_X7_eject) 0 (ci := 7) rfl rfl rfl (na := 0) rfl (by decide +kernel) ⟨rfl, rfl⟩ (by decide) ⟨Nat.zero_le _, Nat.zero_le _⟩ rfl (Nat.le_of_ble_eq_true rfl) dX7_controlCode_85 (fun H locs hw => ?_)
            obtain ⟨s85, es85, hw⟩ := nmD hw
            refine lv_goto (tgt := 120) K.1 K.2.1 dX7_controlCode_88 (by decide) ?_
            exact ret (congrArg (pdW a cA) (by subst es85 es81; exact (Eq.trans (if_neg c1_8) (Eq.trans (if_neg c1_9) (Eq.trans (if_neg c1_10) (Eq.trans (if_neg c1_11) (Eq.trans (if_pos c1_12) rfl))))))) hw dX7_controlCode_120
          · refine sw_t K dX7_controlCode_1 (k := 13) (tgt := 91) (by decide) (by decide) (fun c1_13 => ?_) (fun c1_13 => ?_)
            · refine lv_aload_n K.1 K.2.1 dX7_controlCode_91 rfl (lv_at hl 0 rfl) ?_
              refine caV K hw (c_X7_returnWithLineEnd l D a cA _) hl.1 (tt_V km_X7_261 kI_X7_returnWithLineEnd ks_X7_returnWithLineEnd ki_X7 kC_X7_returnWithLineEnd) 0 (ci := 7) rfl rfl rfl (na := 0) rfl (by decide +kernel) ⟨rfl, rfl⟩ (by decide) ⟨Nat.zero_le _, Nat.zero_le _⟩ rfl (Nat.le_of_ble_eq_true rfl) dX7_controlCode_92 (fun H locs hw => ?_)
              obtain ⟨s92, es92, hw⟩ := nmD hw
              refine lv_goto (tgt := 120) K.1 K.2.1 dX7_controlCode_95 (by decide) ?_
              exact ret (congrArg (pdW a cA) (by subst es92; exact (Eq.trans (if_neg c1_8) (Eq.trans (if_neg c1_9) (Eq.trans (if_neg c1_10) (Eq.trans (if_neg c1_11) (Eq.trans (if_neg c1_12) (Eq.trans (if_pos c1_13) rfl)))))))) hw dX7_controlCode_120
            · refine sw_t K dX7_controlCode_1 (k := 14) (tgt := 98) (by decide) (by decide) (fun c1_14 => ?_) (fun c1_14 => ?_)
              · refine lv_aload_n K.1 K.2.1 dX7_controlCode_98 rfl (lv_at hl 0 rfl) ?_
                refine gD_0_2 K hw kf_X7_26 dX7_controlCode_99 ?_
                refine lv_iconst (v := 1) K.1 K.2.1 dX7_controlCode_102 (by decide) ?_
                refine pD_3_11 K hw kf_X7_184 dX7_controlCode_103 (fun H locs hw => ?_)
                refine lv_goto (tgt := 120) K.1 K.2.1 dX7_controlCode_106 (by decide) ?_
                exact ret (congrArg (pdW a cA) (by exact (Eq.trans (if_neg c1_8) (Eq.trans (if_neg c1_9) (Eq.trans (if_neg c1_10) (Eq.trans (if_neg c1_11) (Eq.trans (if_neg c1_12) (Eq.trans (if_neg c1_13) (Eq.trans (if_pos c1_14) rfl))))))))) hw dX7_controlCode_120
              · refine sw_t K dX7_controlCode_1 (k := 15) (tgt := 109) (by decide) (by decide) (fun c1_15 => ?_) (fun c1_15 => ?_)
                · refine lv_aload_n K.1 K.2.1 dX7_controlCode_109 rfl (lv_at hl 0 rfl) ?_
                  refine gD_0_2 K hw kf_X7_26 dX7_controlCode_110 ?_
                  refine lv_iconst (v := 0) K.1 K.2.1 dX7_controlCode_113 (by decide) ?_
                  refine pD_3_11 K hw kf_X7_184 dX7_controlCode_114 (fun H locs hw => ?_)
                  refine lv_goto (tgt := 120) K.1 K.2.1 dX7_controlCode_117 (by decide) ?_
                  exact ret (congrArg (pdW a cA) (by exact (Eq.trans (if_neg c1_8) (Eq.trans (if_neg c1_9) (Eq.trans (if_neg c1_10) (Eq.trans (if_neg c1_11) (Eq.trans (if_neg c1_12) (Eq.trans (if_neg c1_13) (Eq.trans (if_neg c1_14) (Eq.trans (if_pos c1_15) rfl)))))))))) hw dX7_controlCode_120
                · refine lv_tableOut (tgt := 120) K.1 K.2.1 dX7_controlCode_1 (by have h0 := lv_neT c1_8 (a := 8) rfl; have h1 := lv_neT c1_9 (a := 9) rfl; have h2 := lv_neT c1_10 (a := 10) rfl; have h3 := lv_neT c1_11 (a := 11) rfl; have h4 := lv_neT c1_12 (a := 12) rfl; have h5 := lv_neT c1_13 (a := 13) rfl; have h6 := lv_neT c1_14 (a := 14) rfl; have h7 := lv_neT c1_15 (a := 15) rfl; omega) (by decide) ?_
                  exact ret (congrArg (pdW a cA) (by exact (Eq.trans (if_neg c1_8) (Eq.trans (if_neg c1_9) (Eq.trans (if_neg c1_10) (Eq.trans (if_neg c1_11) (Eq.trans (if_neg c1_12) (Eq.trans (if_neg c1_13) (Eq.trans (if_neg c1_14) (Eq.trans (if_neg c1_15) rfl)))))))))) hw dX7_controlCode_120
def f_X7_shortSequence (σ0 : PS) (x1 : Int32) : PS := (if x1 = 57 then (upS (upS σ0 20 0) 21 (σ0.1 16)) else (if x1 = 61 then let s92 : PS := f_X7_lineFeed σ0 ((σ0.1 23) / 2); s92 else (if x1 = 69 then (if (f_X6_isDue σ0) = 0 then let s51 : PS := f_X7_reset σ0; s51 else let s47 : PS := f_X7_eject σ0; let s51 : PS := f_X7_reset s47; s51) else σ0)))
theorem bx_X7_shortSequence {σ0 : PS} {x1 : Int32} (hI : Bx σ0) : Bx (f_X7_shortSequence σ0 x1) := (bxI (fun c1_57 => (bxS_21 (bxS_20 hI))) (fun c1_57 => (bxI (fun c1_61 => (bx_X7_lineFeed hI)) (fun c1_61 => (bxI (fun c1_69 => (bxI (fun c43 => (bx_X7_reset hI)) (fun c43 => (bx_X7_reset (bx_X7_eject hI))))) (fun c1_69 => hI))))))
abbrev rm_X7_shortSequence : Room := { frames := 4, cells := 0, slots := 0, locals := 87 }
set_option maxHeartbeats 4000000 in
set_option maxRecDepth 100000 in
theorem c_X7_shortSequence (l : Launch) (D : va_G) (a : Nat → Nat) (cA : Nat → ClassId) (σ0 : PS) (x1 : Int32) : CV l yX7_shortSequence cX7_shortSequence 2 rm_X7_shortSequence D (pdT cA) [.ref (a 0), .int x1] (pdW a cA σ0) (pdW a cA (f_X7_shortSequence σ0 x1)) := by
  refine en_v (by decide +kernel) (Nat.le_of_ble_eq_true rfl) ?_
  intro p e s m args below meth c A ls Q K hw hl ret
  have hl : lv_has ls 2 [(0, .ref (a 0)), (1, .int x1)] := hl
  refine lv_iload_n K.1 K.2.1 dX7_shortSequence_0 rfl (lv_at hl 1 rfl) ?_
  refine sw_l K dX7_shortSequence_1 (k := 57) (tgt := 57) (by decide) (by decide) (fun c1_57 => ?_) (fun c1_57 => ?_)
  · refine lv_aload_n K.1 K.2.1 dX7_shortSequence_57 rfl (lv_at hl 0 rfl) ?_
    refine gD_0_2 K hw kf_X7_26 dX7_shortSequence_58 ?_
    refine lv_iconst (v := 0) K.1 K.2.1 dX7_shortSequence_61 (by decide) ?_
    refine pD_3_2 K hw kf_X7_91 dX7_shortSequence_62 (fun H locs hw => ?_)
    refine lv_aload_n K.1 K.2.1 dX7_shortSequence_65 rfl (lv_at hl 0 rfl) ?_
    refine gD_0_2 K hw kf_X7_26 dX7_shortSequence_66 ?_
    refine lv_aload_n K.1 K.2.1 dX7_shortSequence_69 rfl (lv_at hl 0 rfl) ?_
    refine gD_0_1 K hw kf_X7_19 dX7_shortSequence_70 ?_
    refine gD_2_3 K hw kf_X7_95 dX7_shortSequence_73 ?_
    refine pD_3_3 K hw kf_X7_102 dX7_shortSequence_76 (fun H locs hw => ?_)
    refine lv_goto (tgt := 98) K.1 K.2.1 dX7_shortSequence_79 (by decide) ?_
    exact ret (congrArg (pdW a cA) (by exact (Eq.trans (if_pos c1_57) rfl))) hw dX7_shortSequence_98
  · refine sw_l K dX7_shortSequence_1 (k := 61) (tgt := 82) (by decide) (by decide) (fun c1_61 => ?_) (fun c1_61 => ?_)
    · refine lv_aload_n K.1 K.2.1 dX7_shortSequence_82 rfl (lv_at hl 0 rfl) ?_
      refine lv_aload_n K.1 K.2.1 dX7_shortSequence_83 rfl (lv_at hl 0 rfl) ?_
      refine gD_0_2 K hw kf_X7_26 dX7_shortSequence_84 ?_
      refine gD_3_5 K hw kf_X7_160 dX7_shortSequence_87 ?_
      refine lv_iconst (v := 2) K.1 K.2.1 dX7_shortSequence_90 (by decide) ?_
      refine lv_idiv K.1 K.2.1 dX7_shortSequence_91 (by decide) ?_
      refine caV K hw (c_X7_lineFeed l D a cA _ _) hl.1 (tt_V km_X7_245 kI_X7_lineFeed ks_X7_lineFeed ki_X7 kC_X7_lineFeed) 0 (ci := 7) rfl rfl rfl (na := 1) rfl (by decide +kernel) ⟨rfl, rfl⟩ (by decide) ⟨Nat.zero_le _, Nat.zero_le _⟩ rfl (Nat.le_of_ble_eq_true rfl) dX7_shortSequence_92 (fun H locs hw => ?_)
      obtain ⟨s92, es92, hw⟩ := nmD hw
      refine lv_goto (tgt := 98) K.1 K.2.1 dX7_shortSequence_95 (by decide) ?_
      exact ret (congrArg (pdW a cA) (by subst es92; exact (Eq.trans (if_neg c1_57) (Eq.trans (if_pos c1_61) rfl)))) hw dX7_shortSequence_98
    · refine sw_l K dX7_shortSequence_1 (k := 69) (tgt := 36) (by decide) (by decide) (fun c1_69 => ?_) (fun c1_69 => ?_)
      · refine lv_aload_n K.1 K.2.1 dX7_shortSequence_36 rfl (lv_at hl 0 rfl) ?_
        refine gD_0_5 K hw kf_X7_41 dX7_shortSequence_37 ?_
        refine caI K hw (c_X6_isDue l D a cA _) hl.1 (tt_V km_X7_197 kI_X6_isDue ks_X6_isDue ki_X6 kC_X6_isDue) 4 (ci := 6) rfl rfl rfl (na := 0) rfl (by decide +kernel) ⟨rfl, rfl⟩ (by decide) ⟨Nat.zero_le _, Nat.zero_le _⟩ rfl (Nat.le_of_ble_eq_true rfl) dX7_shortSequence_40 (fun H locs hw => ?_)
        refine lv_if_eq (tgt := 50) K.1 K.2.1 dX7_shortSequence_43 (by decide) (fun c43 => ?_) (fun c43 => ?_)
        · refine lv_aload_n K.1 K.2.1 dX7_shortSequence_50 rfl (lv_at hl 0 rfl) ?_
          refine caV K hw (c_X7_reset l D a cA _) hl.1 (tt_V km_X7_69 kI_X7_reset ks_X7_reset ki_X7 kC_X7_reset) 0 (ci := 7) rfl rfl rfl (na := 0) rfl (by decide +kernel) ⟨rfl, rfl⟩ (by decide) ⟨Nat.zero_le _, Nat.zero_le _⟩ rfl (Nat.le_of_ble_eq_true rfl) dX7_shortSequence_51 (fun H locs hw => ?_)
          obtain ⟨s51, es51, hw⟩ := nmD hw
          refine lv_goto (tgt := 98) K.1 K.2.1 dX7_shortSequence_54 (by decide) ?_
          exact ret (congrArg (pdW a cA) (by subst es51; exact (Eq.trans (if_neg c1_57) (Eq.trans (if_neg c1_61) (Eq.trans (if_pos c1_69) (Eq.trans (if_pos c43) rfl)))))) hw dX7_shortSequence_98
        · refine lv_aload_n K.1 K.2.1 dX7_shortSequence_46 rfl (lv_at hl 0 rfl) ?_
          refine caV K hw (c_X7_eject l D a cA _) hl.1 (tt_V km_X7_229 kI_X7_eject ks_X7_eject ki_X7 kC_X7_eject) 0 (ci := 7) rfl rfl rfl (na := 0) rfl (by decide +kernel) ⟨rfl, rfl⟩ (by decide) ⟨Nat.zero_le _, Nat.zero_le _⟩ rfl (Nat.le_of_ble_eq_true rfl) dX7_shortSequence_47 (fun H locs hw => ?_)
          obtain ⟨s47, es47, hw⟩ := nmD hw
          refine lv_aload_n K.1 K.2.1 dX7_shortSequence_50 rfl (lv_at hl 0 rfl) ?_
          refine caV K hw (c_X7_reset l D a cA _) hl.1 (tt_V km_X7_69 kI_X7_reset ks_X7_reset ki_X7 kC_X7_reset) 0 (ci := 7) rfl rfl rfl (na := 0) rfl (by decide +kernel) ⟨rfl, rfl⟩ (by decide) ⟨Nat.zero_le _, Nat.zero_le _⟩ rfl (Nat.le_of_ble_eq_true rfl) dX7_shortSequence_51 (fun H locs hw => ?_)
          obtain ⟨s51, es51, hw⟩ := nmD hw
          refine lv_goto (tgt := 98) K.1 K.2.1 dX7_shortSequence_54 (by decide) ?_
          exact ret (congrArg (pdW a cA) (by subst es51 es47; exact (Eq.trans (if_neg c1_57) (Eq.trans (if_neg c1_61) (Eq.trans (if_pos c1_69) (Eq.trans (if_neg c43) rfl)))))) hw dX7_shortSequence_98
      · refine lv_lookup (tgt := 98) (off := 97) K.1 K.2.1 dX7_shortSequence_1 (by decide) (by show Op.lookupswitch.offset [(57, 56), (61, 81), (69, 35)] 97 _ = 97; rw [lv_osw c1_57 (a := 57) rfl, lv_osw c1_61 (a := 61) rfl, lv_osw c1_69 (a := 69) rfl]; rfl) (by decide) ?_
        exact ret (congrArg (pdW a cA) (by exact (Eq.trans (if_neg c1_57) (Eq.trans (if_neg c1_61) (Eq.trans (if_neg c1_69) rfl))))) hw dX7_shortSequence_98
def f_X7_setStepDown (σ0 : PS) (x1 : Int64) : PS := (if (Int32.toInt64 (σ0.1 17)) < x1 then σ0 else (upS σ0 23 (Int64.toInt32 x1)))
theorem bx_X7_setStepDown {σ0 : PS} {x1 : Int64} (hI : Bx σ0) : Bx (f_X7_setStepDown σ0 x1) := (bxI (fun c9 => hI) (fun c9 => (bxS_23 hI)))
abbrev rm_X7_setStepDown : Room := { frames := 0, cells := 0, slots := 0, locals := 0 }
set_option maxHeartbeats 4000000 in
set_option maxRecDepth 100000 in
theorem c_X7_setStepDown (l : Launch) (D : va_G) (a : Nat → Nat) (cA : Nat → ClassId) (σ0 : PS) (x1 : Int64) : CV l yX7_setStepDown cX7_setStepDown 3 rm_X7_setStepDown D (pdT cA) [.ref (a 0), .long x1] (pdW a cA σ0) (pdW a cA (f_X7_setStepDown σ0 x1)) := by
  refine en_v (by decide +kernel) (Nat.le_of_ble_eq_true rfl) ?_
  intro p e s m args below meth c A ls Q K hw hl ret
  have hl : lv_has ls 3 [(0, .ref (a 0)), (1, .long x1)] := hl
  refine lv_lload_n K.1 K.2.1 dX7_setStepDown_0 rfl (lv_at hl 1 rfl) ?_
  refine lv_aload_n K.1 K.2.1 dX7_setStepDown_1 rfl (lv_at hl 0 rfl) ?_
  refine gD_0_1 K hw kf_X7_19 dX7_setStepDown_2 ?_
  refine gD_2_4 K hw kf_X7_163 dX7_setStepDown_5 ?_
  refine lv_i2l K.1 K.2.1 dX7_setStepDown_8 rfl ?_
  refine lc_gt (tgt := 22) K dX7_setStepDown_9 dX7_setStepDown_10 (by decide) (fun c9 => ?_) (fun c9 => ?_)
  · exact ret (congrArg (pdW a cA) (by exact (Eq.trans (if_pos c9) rfl))) hw dX7_setStepDown_22
  · refine lv_aload_n K.1 K.2.1 dX7_setStepDown_13 rfl (lv_at hl 0 rfl) ?_
    refine gD_0_2 K hw kf_X7_26 dX7_setStepDown_14 ?_
    refine lv_lload_n K.1 K.2.1 dX7_setStepDown_17 rfl (lv_at hl 1 rfl) ?_
    refine lv_l2i K.1 K.2.1 dX7_setStepDown_18 rfl ?_
    refine pD_3_5 K hw kf_X7_160 dX7_setStepDown_19 (fun H locs hw => ?_)
    exact ret (congrArg (pdW a cA) (by exact (Eq.trans (if_neg c9) rfl))) hw dX7_setStepDown_22
def f_X7_setLinesPerInch (σ0 : PS) (x1 : Int32) : PS := (if x1 = 1 then (upS σ0 23 (7200 / x1)) else (if x1 = 2 then (upS σ0 23 (7200 / x1)) else (if x1 = 3 then (upS σ0 23 (7200 / x1)) else (if x1 = 4 then (upS σ0 23 (7200 / x1)) else (if x1 = 6 then (upS σ0 23 (7200 / x1)) else (if x1 = 8 then (upS σ0 23 (7200 / x1)) else (if x1 = 12 then (upS σ0 23 (7200 / x1)) else (if x1 = 16 then (upS σ0 23 (7200 / x1)) else (if x1 = 24 then (upS σ0 23 (7200 / x1)) else (if x1 = 48 then (upS σ0 23 (7200 / x1)) else σ0))))))))))
theorem bx_X7_setLinesPerInch {σ0 : PS} {x1 : Int32} (hI : Bx σ0) : Bx (f_X7_setLinesPerInch σ0 x1) := (bxI (fun c1_1 => (bxS_23 hI)) (fun c1_1 => (bxI (fun c1_2 => (bxS_23 hI)) (fun c1_2 => (bxI (fun c1_3 => (bxS_23 hI)) (fun c1_3 => (bxI (fun c1_4 => (bxS_23 hI)) (fun c1_4 => (bxI (fun c1_6 => (bxS_23 hI)) (fun c1_6 => (bxI (fun c1_8 => (bxS_23 hI)) (fun c1_8 => (bxI (fun c1_12 => (bxS_23 hI)) (fun c1_12 => (bxI (fun c1_16 => (bxS_23 hI)) (fun c1_16 => (bxI (fun c1_24 => (bxS_23 hI)) (fun c1_24 => (bxI (fun c1_48 => (bxS_23 hI)) (fun c1_48 => hI))))))))))))))))))))
abbrev rm_X7_setLinesPerInch : Room := { frames := 0, cells := 0, slots := 0, locals := 0 }
set_option maxHeartbeats 4000000 in
set_option maxRecDepth 100000 in
theorem c_X7_setLinesPerInch (l : Launch) (D : va_G) (a : Nat → Nat) (cA : Nat → ClassId) (σ0 : PS) (x1 : Int32) : CV l yX7_setLinesPerInch cX7_setLinesPerInch 2 rm_X7_setLinesPerInch D (pdT cA) [.ref (a 0), .int x1] (pdW a cA σ0) (pdW a cA (f_X7_setLinesPerInch σ0 x1)) := by
  refine en_v (by decide +kernel) (Nat.le_of_ble_eq_true rfl) ?_
  intro p e s m args below meth c A ls Q K hw hl ret
  have hl : lv_has ls 2 [(0, .ref (a 0)), (1, .int x1)] := hl
  refine lv_iload_n K.1 K.2.1 dX7_setLinesPerInch_0 rfl (lv_at hl 1 rfl) ?_
  refine sw_l K dX7_setLinesPerInch_1 (k := 1) (tgt := 92) (by decide) (by decide) (fun c1_1 => ?_) (fun c1_1 => ?_)
  · refine lv_aload_n K.1 K.2.1 dX7_setLinesPerInch_92 rfl (lv_at hl 0 rfl) ?_
    refine gD_0_2 K hw kf_X7_26 dX7_setLinesPerInch_93 ?_
    refine lv_sipush (v := 7200) K.1 K.2.1 dX7_setLinesPerInch_96 (by decide) ?_
    refine lv_iload_n K.1 K.2.1 dX7_setLinesPerInch_99 rfl (lv_at hl 1 rfl) ?_
    refine lv_idiv K.1 K.2.1 dX7_setLinesPerInch_100 (by intro h9; first | exact absurd (h9.symm.trans c1_1) (by decide) | exact absurd (h9.symm.trans c1_2) (by decide) | exact absurd (h9.symm.trans c1_3) (by decide) | exact absurd (h9.symm.trans c1_4) (by decide) | exact absurd (h9.symm.trans c1_6) (by decide) | exact absurd (h9.symm.trans c1_8) (by decide) | exact absurd (h9.symm.trans c1_12) (by decide) | exact absurd (h9.symm.trans c1_16) (by decide) | exact absurd (h9.symm.trans c1_24) (by decide) | exact absurd (h9.symm.trans c1_48) (by decide)) ?_
    refine pD_3_5 K hw kf_X7_160 dX7_setLinesPerInch_101 (fun H locs hw => ?_)
    refine lv_goto (tgt := 107) K.1 K.2.1 dX7_setLinesPerInch_104 (by decide) ?_
    exact ret (congrArg (pdW a cA) (by exact (Eq.trans (if_pos c1_1) rfl))) hw dX7_setLinesPerInch_107
  · refine sw_l K dX7_setLinesPerInch_1 (k := 2) (tgt := 92) (by decide) (by decide) (fun c1_2 => ?_) (fun c1_2 => ?_)
    · refine lv_aload_n K.1 K.2.1 dX7_setLinesPerInch_92 rfl (lv_at hl 0 rfl) ?_
      refine gD_0_2 K hw kf_X7_26 dX7_setLinesPerInch_93 ?_
      refine lv_sipush (v := 7200) K.1 K.2.1 dX7_setLinesPerInch_96 (by decide) ?_
      refine lv_iload_n K.1 K.2.1 dX7_setLinesPerInch_99 rfl (lv_at hl 1 rfl) ?_
      refine lv_idiv K.1 K.2.1 dX7_setLinesPerInch_100 (by intro h9; first | exact absurd (h9.symm.trans c1_1) (by decide) | exact absurd (h9.symm.trans c1_2) (by decide) | exact absurd (h9.symm.trans c1_3) (by decide) | exact absurd (h9.symm.trans c1_4) (by decide) | exact absurd (h9.symm.trans c1_6) (by decide) | exact absurd (h9.symm.trans c1_8) (by decide) | exact absurd (h9.symm.trans c1_12) (by decide) | exact absurd (h9.symm.trans c1_16) (by decide) | exact absurd (h9.symm.trans c1_24) (by decide) | exact absurd (h9.symm.trans c1_48) (by decide)) ?_
      refine pD_3_5 K hw kf_X7_160 dX7_setLinesPerInch_101 (fun H locs hw => ?_)
      refine lv_goto (tgt := 107) K.1 K.2.1 dX7_setLinesPerInch_104 (by decide) ?_
      exact ret (congrArg (pdW a cA) (by exact (Eq.trans (if_neg c1_1) (Eq.trans (if_pos c1_2) rfl)))) hw dX7_setLinesPerInch_107
    · refine sw_l K dX7_setLinesPerInch_1 (k := 3) (tgt := 92) (by decide) (by decide) (fun c1_3 => ?_) (fun c1_3 => ?_)
      · refine lv_aload_n K.1 K.2.1 dX7_setLinesPerInch_92 rfl (lv_at hl 0 rfl) ?_
        refine gD_0_2 K hw kf_X7_26 dX7_setLinesPerInch_93 ?_
        refine lv_sipush (v := 7200) K.1 K.2.1 dX7_setLinesPerInch_96 (by decide) ?_
        refine lv_iload_n K.1 K.2.1 dX7_setLinesPerInch_99 rfl (lv_at hl 1 rfl) ?_
        refine lv_idiv K.1 K.2.1 dX7_setLinesPerInch_100 (by intro h9; first | exact absurd (h9.symm.trans c1_1) (by decide) | exact absurd (h9.symm.trans c1_2) (by decide) | exact absurd (h9.symm.trans c1_3) (by decide) | exact absurd (h9.symm.trans c1_4) (by decide) | exact absurd (h9.symm.trans c1_6) (by decide) | exact absurd (h9.symm.trans c1_8) (by decide) | exact absurd (h9.symm.trans c1_12) (by decide) | exact absurd (h9.symm.trans c1_16) (by decide) | exact absurd (h9.symm.trans c1_24) (by decide) | exact absurd (h9.symm.trans c1_48) (by decide)) ?_
        refine pD_3_5 K hw kf_X7_160 dX7_setLinesPerInch_101 (fun H locs hw => ?_)
        refine lv_goto (tgt := 107) K.1 K.2.1 dX7_setLinesPerInch_104 (by decide) ?_
        exact ret (congrArg (pdW a cA) (by exact (Eq.trans (if_neg c1_1) (Eq.trans (if_neg c1_2) (Eq.trans (if_pos c1_3) rfl))))) hw dX7_setLinesPerInch_107
      · refine sw_l K dX7_setLinesPerInch_1 (k := 4) (tgt := 92) (by decide) (by decide) (fun c1_4 => ?_) (fun c1_4 => ?_)
        · refine lv_aload_n K.1 K.2.1 dX7_setLinesPerInch_92 rfl (lv_at hl 0 rfl) ?_
          refine gD_0_2 K hw kf_X7_26 dX7_setLinesPerInch_93 ?_
          refine lv_sipush (v := 7200) K.1 K.2.1 dX7_setLinesPerInch_96 (by decide) ?_
          refine lv_iload_n K.1 K.2.1 dX7_setLinesPerInch_99 rfl (lv_at hl 1 rfl) ?_
          refine lv_idiv K.1 K.2.1 dX7_setLinesPerInch_100 (by intro h9; first | exact absurd (h9.symm.trans c1_1) (by decide) | exact absurd (h9.symm.trans c1_2) (by decide) | exact absurd (h9.symm.trans c1_3) (by decide) | exact absurd (h9.symm.trans c1_4) (by decide) | exact absurd (h9.symm.trans c1_6) (by decide) | exact absurd (h9.symm.trans c1_8) (by decide) | exact absurd (h9.symm.trans c1_12) (by decide) | exact absurd (h9.symm.trans c1_16) (by decide) | exact absurd (h9.symm.trans c1_24) (by decide) | exact absurd (h9.symm.trans c1_48) (by decide)) ?_
          refine pD_3_5 K hw kf_X7_160 dX7_setLinesPerInch_101 (fun H locs hw => ?_)
          refine lv_goto (tgt := 107) K.1 K.2.1 dX7_setLinesPerInch_104 (by decide) ?_
          exact ret (congrArg (pdW a cA) (by exact (Eq.trans (if_neg c1_1) (Eq.trans (if_neg c1_2) (Eq.trans (if_neg c1_3) (Eq.trans (if_pos c1_4) rfl)))))) hw dX7_setLinesPerInch_107
        · refine sw_l K dX7_setLinesPerInch_1 (k := 6) (tgt := 92) (by decide) (by decide) (fun c1_6 => ?_) (fun c1_6 => ?_)
          · refine lv_aload_n K.1 K.2.1 dX7_setLinesPerInch_92 rfl (lv_at hl 0 rfl) ?_
            refine gD_0_2 K hw kf_X7_26 dX7_setLinesPerInch_93 ?_
            refine lv_sipush (v := 7200) K.1 K.2.1 dX7_setLinesPerInch_96 (by decide) ?_
            refine lv_iload_n K.1 K.2.1 dX7_setLinesPerInch_99 rfl (lv_at hl 1 rfl) ?_
            refine lv_idiv K.1 K.2.1 dX7_setLinesPerInch_100 (by intro h9; first | exact absurd (h9.symm.trans c1_1) (by decide) | exact absurd (h9.symm.trans c1_2) (by decide) | exact absurd (h9.symm.trans c1_3) (by decide) | exact absurd (h9.symm.trans c1_4) (by decide) | exact absurd (h9.symm.trans c1_6) (by decide) | exact absurd (h9.symm.trans c1_8) (by decide) | exact absurd (h9.symm.trans c1_12) (by decide) | exact absurd (h9.symm.trans c1_16) (by decide) | exact absurd (h9.symm.trans c1_24) (by decide) | exact absurd (h9.symm.trans c1_48) (by decide)) ?_
            refine pD_3_5 K hw kf_X7_160 dX7_setLinesPerInch_101 (fun H locs hw => ?_)
            refine lv_goto (tgt := 107) K.1 K.2.1 dX7_setLinesPerInch_104 (by decide) ?_
            exact ret (congrArg (pdW a cA) (by exact (Eq.trans (if_neg c1_1) (Eq.trans (if_neg c1_2) (Eq.trans (if_neg c1_3) (Eq.trans (if_neg c1_4) (Eq.trans (if_pos c1_6) rfl))))))) hw dX7_setLinesPerInch_107
          · refine sw_l K dX7_setLinesPerInch_1 (k := 8) (tgt := 92) (by decide) (by decide) (fun c1_8 => ?_) (fun c1_8 => ?_)
            · refine lv_aload_n K.1 K.2.1 dX7_setLinesPerInch_92 rfl (lv_at hl 0 rfl) ?_
              refine gD_0_2 K hw kf_X7_26 dX7_setLinesPerInch_93 ?_
              refine lv_sipush (v := 7200) K.1 K.2.1 dX7_setLinesPerInch_96 (by decide) ?_
              refine lv_iload_n K.1 K.2.1 dX7_setLinesPerInch_99 rfl (lv_at hl 1 rfl) ?_
              refine lv_idiv K.1 K.2.1 dX7_setLinesPerInch_100 (by intro h9; first | exact absurd (h9.symm.trans c1_1) (by decide) | exact absurd (h9.symm.trans c1_2) (by decide) | exact absurd (h9.symm.trans c1_3) (by decide) | exact absurd (h9.symm.trans c1_4) (by decide) | exact absurd (h9.symm.trans c1_6) (by decide) | exact absurd (h9.symm.trans c1_8) (by decide) | exact absurd (h9.symm.trans c1_12) (by decide) | exact absurd (h9.symm.trans c1_16) (by decide) | exact absurd (h9.symm.trans c1_24) (by decide) | exact absurd (h9.symm.trans c1_48) (by decide)) ?_
              refine pD_3_5 K hw kf_X7_160 dX7_setLinesPerInch_101 (fun H locs hw => ?_)
              refine lv_goto (tgt := 107) K.1 K.2.1 dX7_setLinesPerInch_104 (by decide) ?_
              exact ret (congrArg (pdW a cA) (by exact (Eq.trans (if_neg c1_1) (Eq.trans (if_neg c1_2) (Eq.trans (if_neg c1_3) (Eq.trans (if_neg c1_4) (Eq.trans (if_neg c1_6) (Eq.trans (if_pos c1_8) rfl)))))))) hw dX7_setLinesPerInch_107
            · refine sw_l K dX7_setLinesPerInch_1 (k := 12) (tgt := 92) (by decide) (by decide) (fun c1_12 => ?_) (fun c1_12 => ?_)
              · refine lv_aload_n K.1 K.2.1 dX7_setLinesPerInch_92 rfl (lv_at hl 0 rfl) ?_
                refine gD_0_2 K hw kf_X7_26 dX7_setLinesPerInch_93 ?_
                refine lv_sipush (v := 7200) K.1 K.2.1 dX7_setLinesPerInch_96 (by decide) ?_
                refine lv_iload_n K.1 K.2.1 dX7_setLinesPerInch_99 rfl (lv_at hl 1 rfl) ?_
                refine lv_idiv K.1 K.2.1 dX7_setLinesPerInch_100 (by intro h9; first | exact absurd (h9.symm.trans c1_1) (by decide) | exact absurd (h9.symm.trans c1_2) (by decide) | exact absurd (h9.symm.trans c1_3) (by decide) | exact absurd (h9.symm.trans c1_4) (by decide) | exact absurd (h9.symm.trans c1_6) (by decide) | exact absurd (h9.symm.trans c1_8) (by decide) | exact absurd (h9.symm.trans c1_12) (by decide) | exact absurd (h9.symm.trans c1_16) (by decide) | exact absurd (h9.symm.trans c1_24) (by decide) | exact absurd (h9.symm.trans c1_48) (by decide)) ?_
                refine pD_3_5 K hw kf_X7_160 dX7_setLinesPerInch_101 (fun H locs hw => ?_)
                refine lv_goto (tgt := 107) K.1 K.2.1 dX7_setLinesPerInch_104 (by decide) ?_
                exact ret (congrArg (pdW a cA) (by exact (Eq.trans (if_neg c1_1) (Eq.trans (if_neg c1_2) (Eq.trans (if_neg c1_3) (Eq.trans (if_neg c1_4) (Eq.trans (if_neg c1_6) (Eq.trans (if_neg c1_8) (Eq.trans (if_pos c1_12) rfl))))))))) hw dX7_setLinesPerInch_107
              · refine sw_l K dX7_setLinesPerInch_1 (k := 16) (tgt := 92) (by decide) (by decide) (fun c1_16 => ?_) (fun c1_16 => ?_)
                · refine lv_aload_n K.1 K.2.1 dX7_setLinesPerInch_92 rfl (lv_at hl 0 rfl) ?_
                  refine gD_0_2 K hw kf_X7_26 dX7_setLinesPerInch_93 ?_
                  refine lv_sipush (v := 7200) K.1 K.2.1 dX7_setLinesPerInch_96 (by decide) ?_
                  refine lv_iload_n K.1 K.2.1 dX7_setLinesPerInch_99 rfl (lv_at hl 1 rfl) ?_
                  refine lv_idiv K.1 K.2.1 dX7_setLinesPerInch_100 (by intro h9; first | exact absurd (h9.symm.trans c1_1) (by decide) | exact absurd (h9.symm.trans c1_2) (by decide) | exact absurd (h9.symm.trans c1_3) (by decide) | exact absurd (h9.symm.trans c1_4) (by decide) | exact absurd (h9.symm.trans c1_6) (by decide) | exact absurd (h9.symm.trans c1_8) (by decide) | exact absurd (h9.symm.trans c1_12) (by decide) | exact absurd (h9.symm.trans c1_16) (by decide) | exact absurd (h9.symm.trans c1_24) (by decide) | exact absurd (h9.symm.trans c1_48) (by decide)) ?_
                  refine pD_3_5 K hw kf_X7_160 dX7_setLinesPerInch_101 (fun H locs hw => ?_)
                  refine lv_goto (tgt := 107) K.1 K.2.1 dX7_setLinesPerInch_104 (by decide) ?_
                  exact ret (congrArg (pdW a cA) (by exact (Eq.trans (if_neg c1_1) (Eq.trans (if_neg c1_2) (Eq.trans (if_neg c1_3) (Eq.trans (if_neg c1_4) (Eq.trans (if_neg c1_6) (Eq.trans (if_neg c1_8) (Eq.trans (if_neg c1_12) (Eq.trans (if_pos c1_16) rfl)))))))))) hw dX7_setLinesPerInch_107
                · refine sw_l K dX7_setLinesPerInch_1 (k := 24) (tgt := 92) (by decide) (by decide) (fun c1_24 => ?_) (fun c1_24 => ?_)
                  · refine lv_aload_n K.1 K.2.1 dX7_setLinesPerInch_92 rfl (lv_at hl 0 rfl) ?_
                    refine gD_0_2 K hw kf_X7_26 dX7_setLinesPerInch_93 ?_
                    refine lv_sipush (v := 7200) K.1 K.2.1 dX7_setLinesPerInch_96 (by decide) ?_
                    refine lv_iload_n K.1 K.2.1 dX7_setLinesPerInch_99 rfl (lv_at hl 1 rfl) ?_
                    refine lv_idiv K.1 K.2.1 dX7_setLinesPerInch_100 (by intro h9; first | exact absurd (h9.symm.trans c1_1) (by decide) | exact absurd (h9.symm.trans c1_2) (by decide) | exact absurd (h9.symm.trans c1_3) (by decide) | exact absurd (h9.symm.trans c1_4) (by decide) | exact absurd (h9.symm.trans c1_6) (by decide) | exact absurd (h9.symm.trans c1_8) (by decide) | exact absurd (h9.symm.trans c1_12) (by decide) | exact absurd (h9.symm.trans c1_16) (by decide) | exact absurd (h9.symm.trans c1_24) (by decide) | exact absurd (h9.symm.trans c1_48) (by decide)) ?_
                    refine pD_3_5 K hw kf_X7_160 dX7_setLinesPerInch_101 (fun H locs hw => ?_)
                    refine lv_goto (tgt := 107) K.1 K.2.1 dX7_setLinesPerInch_104 (by decide) ?_
                    exact ret (congrArg (pdW a cA) (by exact (Eq.trans (if_neg c1_1) (Eq.trans (if_neg c1_2) (Eq.trans (if_neg c1_3) (Eq.trans (if_neg c1_4) (Eq.trans (if_neg c1_6) (Eq.trans (if_neg c1_8) (Eq.trans (if_neg c1_12) (Eq.trans (if_neg c1_16) (Eq.trans (if_pos c1_24) rfl))))))))))) hw dX7_setLinesPerInch_107
                  · refine sw_l K dX7_setLinesPerInch_1 (k := 48) (tgt := 92) (by decide) (by decide) (fun c1_48 => ?_) (fun c1_48 => ?_)
                    · refine lv_aload_n K.1 K.2.1 dX7_setLinesPerInch_92 rfl (lv_at hl 0 rfl) ?_
                      refine gD_0_2 K hw kf_X7_26 dX7_setLinesPerInch_93 ?_
                      refine lv_sipush (v := 7200) K.1 K.2.1 dX7_setLinesPerInch_96 (by decide) ?_
                      refine lv_iload_n K.1 K.2.1 dX7_setLinesPerInch_99 rfl (lv_at hl 1 rfl) ?_
                      refine lv_idiv K.1 K.2.1 dX7_setLinesPerInch_100 (by intro h9; first | exact absurd (h9.symm.trans c1_1) (by decide) | exact absurd (h9.symm.trans c1_2) (by decide) | exact absurd (h9.symm.trans c1_3) (by decide) | exact absurd (h9.symm.trans c1_4) (by decide) | exact absurd (h9.symm.trans c1_6) (by decide) | exact absurd (h9.symm.trans c1_8) (by decide) | exact absurd (h9.symm.trans c1_12) (by decide) | exact absurd (h9.symm.trans c1_16) (by decide) | exact absurd (h9.symm.trans c1_24) (by decide) | exact absurd (h9.symm.trans c1_48) (by decide)) ?_
                      refine pD_3_5 K hw kf_X7_160 dX7_setLinesPerInch_101 (fun H locs hw => ?_)
                      refine lv_goto (tgt := 107) K.1 K.2.1 dX7_setLinesPerInch_104 (by decide) ?_
                      exact ret (congrArg (pdW a cA) (by exact (Eq.trans (if_neg c1_1) (Eq.trans (if_neg c1_2) (Eq.trans (if_neg c1_3) (Eq.trans (if_neg c1_4) (Eq.trans (if_neg c1_6) (Eq.trans (if_neg c1_8) (Eq.trans (if_neg c1_12) (Eq.trans (if_neg c1_16) (Eq.trans (if_neg c1_24) (Eq.trans (if_pos c1_48) rfl)))))))))))) hw dX7_setLinesPerInch_107
                    · refine lv_lookup (tgt := 107) (off := 106) K.1 K.2.1 dX7_setLinesPerInch_1 (by decide) (by show Op.lookupswitch.offset [(1, 91), (2, 91), (3, 91), (4, 91), (6, 91), (8, 91), (12, 91), (16, 91), (24, 91), (48, 91)] 106 _ = 106; rw [lv_osw c1_1 (a := 1) rfl, lv_osw c1_2 (a := 2) rfl, lv_osw c1_3 (a := 3) rfl, lv_osw c1_4 (a := 4) rfl, lv_osw c1_6 (a := 6) rfl, lv_osw c1_8 (a := 8) rfl, lv_osw c1_12 (a := 12) rfl, lv_osw c1_16 (a := 16) rfl, lv_osw c1_24 (a := 24) rfl, lv_osw c1_48 (a := 48) rfl]; rfl) (by decide) ?_
                      exact ret (congrArg (pdW a cA) (by exact (Eq.trans (if_neg c1_1) (Eq.trans (if_neg c1_2) (Eq.trans (if_neg c1_3) (Eq.trans (if_neg c1_4) (Eq.trans (if_neg c1_6) (Eq.trans (if_neg c1_8) (Eq.trans (if_neg c1_12) (Eq.trans (if_neg c1_16) (Eq.trans (if_neg c1_24) (Eq.trans (if_neg c1_48) rfl)))))))))))) hw dX7_setLinesPerInch_107
def f_X7_setTop (σ0 : PS) (x1 : Int64) : PS := (if (Int32.toInt64 (σ0.1 17)) < x1 then σ0 else (upS (upS σ0 18 (Int64.toInt32 x1)) 19 (f_X7_within (((Int32.toInt64 (σ0.1 17)) - x1) - 3600) 0 (σ0.1 17))))
theorem bx_X7_setTop {σ0 : PS} {x1 : Int64} (hI : Bx σ0) : Bx (f_X7_setTop σ0 x1) := (bxI (fun c9 => hI) (fun c9 => (bxS_19 (bxS_18 hI))))
abbrev rm_X7_setTop : Room := { frames := 1, cells := 0, slots := 0, locals := 23 }
set_option maxHeartbeats 4000000 in
set_option maxRecDepth 100000 in
theorem c_X7_setTop (l : Launch) (D : va_G) (a : Nat → Nat) (cA : Nat → ClassId) (σ0 : PS) (x1 : Int64) : CV l yX7_setTop cX7_setTop 3 rm_X7_setTop D (pdT cA) [.ref (a 0), .long x1] (pdW a cA σ0) (pdW a cA (f_X7_setTop σ0 x1)) := by
  refine en_v (by decide +kernel) (Nat.le_of_ble_eq_true rfl) ?_
  intro p e s m args below meth c A ls Q K hw hl ret
  have hl : lv_has ls 3 [(0, .ref (a 0)), (1, .long x1)] := hl
  refine lv_lload_n K.1 K.2.1 dX7_setTop_0 rfl (lv_at hl 1 rfl) ?_
  refine lv_aload_n K.1 K.2.1 dX7_setTop_1 rfl (lv_at hl 0 rfl) ?_
  refine gD_0_1 K hw kf_X7_19 dX7_setTop_2 ?_
  refine gD_2_4 K hw kf_X7_163 dX7_setTop_5 ?_
  refine lv_i2l K.1 K.2.1 dX7_setTop_8 rfl ?_
  refine lc_gt (tgt := 54) K dX7_setTop_9 dX7_setTop_10 (by decide) (fun c9 => ?_) (fun c9 => ?_)
  · exact ret (congrArg (pdW a cA) (by exact (Eq.trans (if_pos c9) rfl))) hw dX7_setTop_54
  · refine lv_aload_n K.1 K.2.1 dX7_setTop_13 rfl (lv_at hl 0 rfl) ?_
    refine gD_0_2 K hw kf_X7_26 dX7_setTop_14 ?_
    refine lv_lload_n K.1 K.2.1 dX7_setTop_17 rfl (lv_at hl 1 rfl) ?_
    refine lv_l2i K.1 K.2.1 dX7_setTop_18 rfl ?_
    refine pD_3_0 K hw kf_X7_151 dX7_setTop_19 (fun H locs hw => ?_)
    refine lv_aload_n K.1 K.2.1 dX7_setTop_22 rfl (lv_at hl 0 rfl) ?_
    refine gD_0_2 K hw kf_X7_26 dX7_setTop_23 ?_
    refine lv_aload_n K.1 K.2.1 dX7_setTop_26 rfl (lv_at hl 0 rfl) ?_
    refine gD_0_1 K hw kf_X7_19 dX7_setTop_27 ?_
    refine gD_2_4 K hw kf_X7_163 dX7_setTop_30 ?_
    refine lv_i2l K.1 K.2.1 dX7_setTop_33 rfl ?_
    refine lv_lload_n K.1 K.2.1 dX7_setTop_34 rfl (lv_at hl 1 rfl) ?_
    refine lv_lsub K.1 K.2.1 dX7_setTop_35 ?_
    refine lv_ldc2 K.1 K.2.1 K.2.2.2.1 (K.2.2.1 _ kc_X7_331) dX7_setTop_36 ?_
    refine lv_lsub K.1 K.2.1 dX7_setTop_39 ?_
    refine lv_iconst (v := 0) K.1 K.2.1 dX7_setTop_40 (by decide) ?_
    refine lv_aload_n K.1 K.2.1 dX7_setTop_41 rfl (lv_at hl 0 rfl) ?_
    refine gD_0_1 K hw kf_X7_19 dX7_setTop_42 ?_
    refine gD_2_4 K hw kf_X7_163 dX7_setTop_45 ?_
    refine caS K hw (c_X7_within l D a cA _ _ _ _) hl.1 km_X7_98 kS_X7_within ki_X7 kC_X7_within (na := 3) rfl (by decide +kernel) ⟨rfl, rfl⟩ (by decide) ⟨Nat.zero_le _, Nat.zero_le _⟩ rfl (Nat.le_of_ble_eq_true rfl) dX7_setTop_48 (fun H locs hw => ?_)
    refine pD_3_1 K hw kf_X7_154 dX7_setTop_51 (fun H locs hw => ?_)
    exact ret (congrArg (pdW a cA) (by exact (Eq.trans (if_neg c9) rfl))) hw dX7_setTop_54
def f_X7_setLength (σ0 : PS) (x1 : Int64) : PS := (if (Int32.toInt64 (σ0.1 17)) < ((Int32.toInt64 (σ0.1 18)) + x1) then σ0 else (upS σ0 19 (Int64.toInt32 x1)))
theorem bx_X7_setLength {σ0 : PS} {x1 : Int64} (hI : Bx σ0) : Bx (f_X7_setLength σ0 x1) := (bxI (fun c18 => hI) (fun c18 => (bxS_19 hI)))
abbrev rm_X7_setLength : Room := { frames := 0, cells := 0, slots := 0, locals := 0 }
set_option maxHeartbeats 4000000 in
set_option maxRecDepth 100000 in
theorem c_X7_setLength (l : Launch) (D : va_G) (a : Nat → Nat) (cA : Nat → ClassId) (σ0 : PS) (x1 : Int64) : CV l yX7_setLength cX7_setLength 3 rm_X7_setLength D (pdT cA) [.ref (a 0), .long x1] (pdW a cA σ0) (pdW a cA (f_X7_setLength σ0 x1)) := by
  refine en_v (by decide +kernel) (Nat.le_of_ble_eq_true rfl) ?_
  intro p e s m args below meth c A ls Q K hw hl ret
  have hl : lv_has ls 3 [(0, .ref (a 0)), (1, .long x1)] := hl
  refine lv_aload_n K.1 K.2.1 dX7_setLength_0 rfl (lv_at hl 0 rfl) ?_
  refine gD_0_2 K hw kf_X7_26 dX7_setLength_1 ?_
  refine gD_3_0 K hw kf_X7_151 dX7_setLength_4 ?_
  refine lv_i2l K.1 K.2.1 dX7_setLength_7 rfl ?_
  refine lv_lload_n K.1 K.2.1 dX7_setLength_8 rfl (lv_at hl 1 rfl) ?_
  refine lv_ladd K.1 K.2.1 dX7_setLength_9 ?_
  refine lv_aload_n K.1 K.2.1 dX7_setLength_10 rfl (lv_at hl 0 rfl) ?_
  refine gD_0_1 K hw kf_X7_19 dX7_setLength_11 ?_
  refine gD_2_4 K hw kf_X7_163 dX7_setLength_14 ?_
  refine lv_i2l K.1 K.2.1 dX7_setLength_17 rfl ?_
  refine lc_gt (tgt := 31) K dX7_setLength_18 dX7_setLength_19 (by decide) (fun c18 => ?_) (fun c18 => ?_)
  · exact ret (congrArg (pdW a cA) (by exact (Eq.trans (if_pos c18) rfl))) hw dX7_setLength_31
  · refine lv_aload_n K.1 K.2.1 dX7_setLength_22 rfl (lv_at hl 0 rfl) ?_
    refine gD_0_2 K hw kf_X7_26 dX7_setLength_23 ?_
    refine lv_lload_n K.1 K.2.1 dX7_setLength_26 rfl (lv_at hl 1 rfl) ?_
    refine lv_l2i K.1 K.2.1 dX7_setLength_27 rfl ?_
    refine pD_3_1 K hw kf_X7_154 dX7_setLength_28 (fun H locs hw => ?_)
    exact ret (congrArg (pdW a cA) (by exact (Eq.trans (if_neg c18) rfl))) hw dX7_setLength_31
def f_X7_spacingCommand (σ0 : PS) (x1 : Int64) (x3 : Int64) : PS × Int32 := (if (σ0.1 3) = 71 then (if 3 < x3 then (σ0, 1) else ((upS σ0 28 (Int64.toInt32 x3)), 1)) else (if (σ0.1 3) = 72 then ((upS σ0 22 (Int64.toInt32 ((60 * x1) / 10000))), 1) else (σ0, 0)))
theorem bx_X7_spacingCommand {σ0 : PS} {x1 : Int64} {x3 : Int64} (hI : Bx σ0) : Bx (f_X7_spacingCommand σ0 x1 x3).1 := (bxI2 (fun c7_71 => (bxI2 (fun c55 => hI) (fun c55 => (bxS_28 hI)))) (fun c7_71 => (bxI2 (fun c7_72 => (bxS_22 hI)) (fun c7_72 => hI))))
abbrev rm_X7_spacingCommand : Room := { frames := 0, cells := 0, slots := 0, locals := 0 }
theorem nz_X7_spacingCommand {σ0 : PS} {x1 : Int64} {x3 : Int64} : NZ (f_X7_spacingCommand σ0 x1 x3).2 := (nzI2 (nzI2 nz1 nz1) (nzI2 nz1 nz0))
set_option maxHeartbeats 4000000 in
set_option maxRecDepth 100000 in
theorem c_X7_spacingCommand (l : Launch) (D : va_G) (a : Nat → Nat) (cA : Nat → ClassId) (σ0 : PS) (x1 : Int64) (x3 : Int64) : CI l yX7_spacingCommand cX7_spacingCommand 5 .boolean rm_X7_spacingCommand D (pdT cA) [.ref (a 0), .long x1, .long x3] (pdW a cA σ0) (pdW a cA (f_X7_spacingCommand σ0 x1 x3).1) (f_X7_spacingCommand σ0 x1 x3).2 := by
  refine en_i (by decide +kernel) (Nat.le_of_ble_eq_true rfl) nz_X7_spacingCommand ?_
  intro p e s m args below meth c A ls Q K hw hl ret
  have hl : lv_has ls 5 [(0, .ref (a 0)), (1, .long x1), (3, .long x3)] := hl
  refine lv_aload_n K.1 K.2.1 dX7_spacingCommand_0 rfl (lv_at hl 0 rfl) ?_
  refine gD_0_0 K hw kf_X7_10 dX7_spacingCommand_1 ?_
  refine gD_1_3 K hw kf_X7_306 dX7_spacingCommand_4 ?_
  refine sw_l K dX7_spacingCommand_7 (k := 71) (tgt := 51) (by decide) (by decide) (fun c7_71 => ?_) (fun c7_71 => ?_)
  · refine lv_lload_n K.1 K.2.1 dX7_spacingCommand_51 rfl (lv_at hl 2 rfl) ?_
    refine lv_ldc2 K.1 K.2.1 K.2.2.2.1 (K.2.2.1 _ kc_X7_315) dX7_spacingCommand_52 ?_
    refine lc_gt (tgt := 68) K dX7_spacingCommand_55 dX7_spacingCommand_56 (by decide) (fun c55 => ?_) (fun c55 => ?_)
    · refine lv_iconst (v := 1) K.1 K.2.1 dX7_spacingCommand_68 (by decide) ?_
      have eq9 : f_X7_spacingCommand σ0 x1 x3 = (σ0, 1) := (by exact (Eq.trans (if_pos c7_71) (Eq.trans (if_pos c55) rfl)))
      exact ret (congrArg (fun z => pdW a cA z.1) eq9) (congrArg (fun z => z.2) eq9) hw dX7_spacingCommand_69
    · refine lv_aload_n K.1 K.2.1 dX7_spacingCommand_59 rfl (lv_at hl 0 rfl) ?_
      refine gD_0_2 K hw kf_X7_26 dX7_spacingCommand_60 ?_
      refine lv_lload_n K.1 K.2.1 dX7_spacingCommand_63 rfl (lv_at hl 2 rfl) ?_
      refine lv_l2i K.1 K.2.1 dX7_spacingCommand_64 rfl ?_
      refine pD_3_10 K hw kf_X7_178 dX7_spacingCommand_65 (fun H locs hw => ?_)
      refine lv_iconst (v := 1) K.1 K.2.1 dX7_spacingCommand_68 (by decide) ?_
      have eq9 : f_X7_spacingCommand σ0 x1 x3 = ((upS σ0 28 (Int64.toInt32 x3)), 1) := (by exact (Eq.trans (if_pos c7_71) (Eq.trans (if_neg c55) rfl)))
      exact ret (congrArg (fun z => pdW a cA z.1) eq9) (congrArg (fun z => z.2) eq9) hw dX7_spacingCommand_69
  · refine sw_l K dX7_spacingCommand_7 (k := 72) (tgt := 32) (by decide) (by decide) (fun c7_72 => ?_) (fun c7_72 => ?_)
    · refine lv_aload_n K.1 K.2.1 dX7_spacingCommand_32 rfl (lv_at hl 0 rfl) ?_
      refine gD_0_2 K hw kf_X7_26 dX7_spacingCommand_33 ?_
      refine lv_ldc2 K.1 K.2.1 K.2.2.2.1 (K.2.2.1 _ kc_X7_333) dX7_spacingCommand_36 ?_
      refine lv_lload_n K.1 K.2.1 dX7_spacingCommand_39 rfl (lv_at hl 1 rfl) ?_
      refine lv_lmul K.1 K.2.1 dX7_spacingCommand_40 ?_
      refine lv_ldc2 K.1 K.2.1 K.2.2.2.1 (K.2.2.1 _ kc_X7_269) dX7_spacingCommand_41 ?_
      refine lv_ldiv K.1 K.2.1 dX7_spacingCommand_44 (by decide) ?_
      refine lv_l2i K.1 K.2.1 dX7_spacingCommand_45 rfl ?_
      refine pD_3_4 K hw kf_X7_157 dX7_spacingCommand_46 (fun H locs hw => ?_)
      refine lv_iconst (v := 1) K.1 K.2.1 dX7_spacingCommand_49 (by decide) ?_
      have eq9 : f_X7_spacingCommand σ0 x1 x3 = ((upS σ0 22 (Int64.toInt32 ((60 * x1) / 10000))), 1) := (by exact (Eq.trans (if_neg c7_71) (Eq.trans (if_pos c7_72) rfl)))
      exact ret (congrArg (fun z => pdW a cA z.1) eq9) (congrArg (fun z => z.2) eq9) hw dX7_spacingCommand_50
    · refine lv_lookup (tgt := 70) (off := 63) K.1 K.2.1 dX7_spacingCommand_7 (by decide) (by show Op.lookupswitch.offset [(71, 44), (72, 25)] 63 _ = 63; rw [lv_osw c7_71 (a := 71) rfl, lv_osw c7_72 (a := 72) rfl]; rfl) (by decide) ?_
      refine lv_iconst (v := 0) K.1 K.2.1 dX7_spacingCommand_70 (by decide) ?_
      have eq9 : f_X7_spacingCommand σ0 x1 x3 = (σ0, 0) := (by exact (Eq.trans (if_neg c7_71) (Eq.trans (if_neg c7_72) rfl)))
      exact ret (congrArg (fun z => pdW a cA z.1) eq9) (congrArg (fun z => z.2) eq9) hw dX7_spacingCommand_71
def f_X7_setLeft (σ0 : PS) (x1 : Int64) : PS := (if (Int32.toInt64 (σ0.1 21)) ≤ x1 then σ0 else (if (Int64.toInt32 x1) ≤ (σ0.1 24) then (upS σ0 20 (Int64.toInt32 x1)) else (upS (upS σ0 20 (Int64.toInt32 x1)) 24 (Int64.toInt32 x1))))
theorem bx_X7_setLeft {σ0 : PS} {x1 : Int64} (hI : Bx σ0) : Bx (f_X7_setLeft σ0 x1) := (bxI (fun c9 => hI) (fun c9 => (bxI (fun c36 => (bxS_20 hI)) (fun c36 => (bxS_24 (bxS_20 hI))))))
abbrev rm_X7_setLeft : Room := { frames := 0, cells := 0, slots := 0, locals := 0 }
set_option maxHeartbeats 4000000 in
set_option maxRecDepth 100000 in
theorem c_X7_setLeft (l : Launch) (D : va_G) (a : Nat → Nat) (cA : Nat → ClassId) (σ0 : PS) (x1 : Int64) : CV l yX7_setLeft cX7_setLeft 3 rm_X7_setLeft D (pdT cA) [.ref (a 0), .long x1] (pdW a cA σ0) (pdW a cA (f_X7_setLeft σ0 x1)) := by
  refine en_v (by decide +kernel) (Nat.le_of_ble_eq_true rfl) ?_
  intro p e s m args below meth c A ls Q K hw hl ret
  have hl : lv_has ls 3 [(0, .ref (a 0)), (1, .long x1)] := hl
  refine lv_lload_n K.1 K.2.1 dX7_setLeft_0 rfl (lv_at hl 1 rfl) ?_
  refine lv_aload_n K.1 K.2.1 dX7_setLeft_1 rfl (lv_at hl 0 rfl) ?_
  refine gD_0_2 K hw kf_X7_26 dX7_setLeft_2 ?_
  refine gD_3_3 K hw kf_X7_102 dX7_setLeft_5 ?_
  refine lv_i2l K.1 K.2.1 dX7_setLeft_8 rfl ?_
  refine lc_ge (tgt := 53) K dX7_setLeft_9 dX7_setLeft_10 (by decide) (fun c9 => ?_) (fun c9 => ?_)
  · exact ret (congrArg (pdW a cA) (by exact (Eq.trans (if_pos c9) rfl))) hw dX7_setLeft_53
  · refine lv_aload_n K.1 K.2.1 dX7_setLeft_13 rfl (lv_at hl 0 rfl) ?_
    refine gD_0_2 K hw kf_X7_26 dX7_setLeft_14 ?_
    refine lv_lload_n K.1 K.2.1 dX7_setLeft_17 rfl (lv_at hl 1 rfl) ?_
    refine lv_l2i K.1 K.2.1 dX7_setLeft_18 rfl ?_
    refine pD_3_2 K hw kf_X7_91 dX7_setLeft_19 (fun H locs hw => ?_)
    refine lv_aload_n K.1 K.2.1 dX7_setLeft_22 rfl (lv_at hl 0 rfl) ?_
    refine gD_0_2 K hw kf_X7_26 dX7_setLeft_23 ?_
    refine gD_3_6 K hw kf_X7_105 dX7_setLeft_26 ?_
    refine lv_aload_n K.1 K.2.1 dX7_setLeft_29 rfl (lv_at hl 0 rfl) ?_
    refine gD_0_2 K hw kf_X7_26 dX7_setLeft_30 ?_
    refine gD_3_2 K hw kf_X7_91 dX7_setLeft_33 ?_
    refine lv_icmp_ge (tgt := 53) K.1 K.2.1 dX7_setLeft_36 (by decide) (fun c36 => ?_) (fun c36 => ?_)
    · exact ret (congrArg (pdW a cA) (by exact (Eq.trans (if_neg c9) (Eq.trans (if_pos c36) rfl)))) hw dX7_setLeft_53
    · refine lv_aload_n K.1 K.2.1 dX7_setLeft_39 rfl (lv_at hl 0 rfl) ?_
      refine gD_0_2 K hw kf_X7_26 dX7_setLeft_40 ?_
      refine lv_aload_n K.1 K.2.1 dX7_setLeft_43 rfl (lv_at hl 0 rfl) ?_
      refine gD_0_2 K hw kf_X7_26 dX7_setLeft_44 ?_
      refine gD_3_2 K hw kf_X7_91 dX7_setLeft_47 ?_
      refine pD_3_6 K hw kf_X7_105 dX7_setLeft_50 (fun H locs hw => ?_)
      exact ret (congrArg (pdW a cA) (by exact (Eq.trans (if_neg c9) (Eq.trans (if_neg c36) rfl)))) hw dX7_setLeft_53
def f_X7_setRight (σ0 : PS) (x1 : Int64) : PS := (if x1 ≤ (Int32.toInt64 (σ0.1 20)) then σ0 else (if (σ0.1 24) ≤ (f_X7_within x1 0 (σ0.1 16)) then (upS σ0 21 (f_X7_within x1 0 (σ0.1 16))) else (upS (upS σ0 21 (f_X7_within x1 0 (σ0.1 16))) 24 (f_X7_within x1 0 (σ0.1 16)))))
theorem bx_X7_setRight {σ0 : PS} {x1 : Int64} (hI : Bx σ0) : Bx (f_X7_setRight σ0 x1) := (bxI (fun c9 => hI) (fun c9 => (bxI (fun c46 => (bxS_21 hI)) (fun c46 => (bxS_24 (bxS_21 hI))))))
abbrev rm_X7_setRight : Room := { frames := 1, cells := 0, slots := 0, locals := 23 }
set_option maxHeartbeats 4000000 in
set_option maxRecDepth 100000 in
theorem c_X7_setRight (l : Launch) (D : va_G) (a : Nat → Nat) (cA : Nat → ClassId) (σ0 : PS) (x1 : Int64) : CV l yX7_setRight cX7_setRight 3 rm_X7_setRight D (pdT cA) [.ref (a 0), .long x1] (pdW a cA σ0) (pdW a cA (f_X7_setRight σ0 x1)) := by
  refine en_v (by decide +kernel) (Nat.le_of_ble_eq_true rfl) ?_
  intro p e s m args below meth c A ls Q K hw hl ret
  have hl : lv_has ls 3 [(0, .ref (a 0)), (1, .long x1)] := hl
  refine lv_lload_n K.1 K.2.1 dX7_setRight_0 rfl (lv_at hl 1 rfl) ?_
  refine lv_aload_n K.1 K.2.1 dX7_setRight_1 rfl (lv_at hl 0 rfl) ?_
  refine gD_0_2 K hw kf_X7_26 dX7_setRight_2 ?_
  refine gD_3_2 K hw kf_X7_91 dX7_setRight_5 ?_
  refine lv_i2l K.1 K.2.1 dX7_setRight_8 rfl ?_
  refine lc_le (tgt := 63) K dX7_setRight_9 dX7_setRight_10 (by decide) (fun c9 => ?_) (fun c9 => ?_)
  · exact ret (congrArg (pdW a cA) (by exact (Eq.trans (if_pos c9) rfl))) hw dX7_setRight_63
  · refine lv_aload_n K.1 K.2.1 dX7_setRight_13 rfl (lv_at hl 0 rfl) ?_
    refine gD_0_2 K hw kf_X7_26 dX7_setRight_14 ?_
    refine lv_lload_n K.1 K.2.1 dX7_setRight_17 rfl (lv_at hl 1 rfl) ?_
    refine lv_iconst (v := 0) K.1 K.2.1 dX7_setRight_18 (by decide) ?_
    refine lv_aload_n K.1 K.2.1 dX7_setRight_19 rfl (lv_at hl 0 rfl) ?_
    refine gD_0_1 K hw kf_X7_19 dX7_setRight_20 ?_
    refine gD_2_3 K hw kf_X7_95 dX7_setRight_23 ?_
    refine caS K hw (c_X7_within l D a cA _ _ _ _) hl.1 km_X7_98 kS_X7_within ki_X7 kC_X7_within (na := 3) rfl (by decide +kernel) ⟨rfl, rfl⟩ (by decide) ⟨Nat.zero_le _, Nat.zero_le _⟩ rfl (Nat.le_of_ble_eq_true rfl) dX7_setRight_26 (fun H locs hw => ?_)
    refine pD_3_3 K hw kf_X7_102 dX7_setRight_29 (fun H locs hw => ?_)
    refine lv_aload_n K.1 K.2.1 dX7_setRight_32 rfl (lv_at hl 0 rfl) ?_
    refine gD_0_2 K hw kf_X7_26 dX7_setRight_33 ?_
    refine gD_3_6 K hw kf_X7_105 dX7_setRight_36 ?_
    refine lv_aload_n K.1 K.2.1 dX7_setRight_39 rfl (lv_at hl 0 rfl) ?_
    refine gD_0_2 K hw kf_X7_26 dX7_setRight_40 ?_
    refine gD_3_3 K hw kf_X7_102 dX7_setRight_43 ?_
    refine lv_icmp_le (tgt := 63) K.1 K.2.1 dX7_setRight_46 (by decide) (fun c46 => ?_) (fun c46 => ?_)
    · exact ret (congrArg (pdW a cA) (by exact (Eq.trans (if_neg c9) (Eq.trans (if_pos c46) rfl)))) hw dX7_setRight_63
    · refine lv_aload_n K.1 K.2.1 dX7_setRight_49 rfl (lv_at hl 0 rfl) ?_
      refine gD_0_2 K hw kf_X7_26 dX7_setRight_50 ?_
      refine lv_aload_n K.1 K.2.1 dX7_setRight_53 rfl (lv_at hl 0 rfl) ?_
      refine gD_0_2 K hw kf_X7_26 dX7_setRight_54 ?_
      refine gD_3_3 K hw kf_X7_102 dX7_setRight_57 ?_
      refine pD_3_6 K hw kf_X7_105 dX7_setRight_60 (fun H locs hw => ?_)
      exact ret (congrArg (pdW a cA) (by exact (Eq.trans (if_neg c9) (Eq.trans (if_neg c46) rfl)))) hw dX7_setRight_63
def f_X7_marginCommand (σ0 : PS) (x1 : Int64) : PS × Int32 := (if (σ0.1 3) = 76 then let s43 : PS := f_X7_setLeft σ0 (x1 * (Int32.toInt64 (σ0.1 22))); (s43, 1) else (if (σ0.1 3) = 77 then let s61 : PS := f_X7_setRight σ0 ((x1 + 1) * (Int32.toInt64 (σ0.1 22))); (s61, 1) else (σ0, 0)))
theorem bx_X7_marginCommand {σ0 : PS} {x1 : Int64} (hI : Bx σ0) : Bx (f_X7_marginCommand σ0 x1).1 := (bxI2 (fun c7_76 => (bx_X7_setLeft hI)) (fun c7_76 => (bxI2 (fun c7_77 => (bx_X7_setRight hI)) (fun c7_77 => hI))))
abbrev rm_X7_marginCommand : Room := { frames := 2, cells := 0, slots := 0, locals := 45 }
theorem nz_X7_marginCommand {σ0 : PS} {x1 : Int64} : NZ (f_X7_marginCommand σ0 x1).2 := (nzI2 nz1 (nzI2 nz1 nz0))
set_option maxHeartbeats 4000000 in
set_option maxRecDepth 100000 in
theorem c_X7_marginCommand (l : Launch) (D : va_G) (a : Nat → Nat) (cA : Nat → ClassId) (σ0 : PS) (x1 : Int64) : CI l yX7_marginCommand cX7_marginCommand 3 .boolean rm_X7_marginCommand D (pdT cA) [.ref (a 0), .long x1] (pdW a cA σ0) (pdW a cA (f_X7_marginCommand σ0 x1).1) (f_X7_marginCommand σ0 x1).2 := by
  refine en_i (by decide +kernel) (Nat.le_of_ble_eq_true rfl) nz_X7_marginCommand ?_
  intro p e s m args below meth c A ls Q K hw hl ret
  have hl : lv_has ls 3 [(0, .ref (a 0)), (1, .long x1)] := hl
  refine lv_aload_n K.1 K.2.1 dX7_marginCommand_0 rfl (lv_at hl 0 rfl) ?_
  refine gD_0_0 K hw kf_X7_10 dX7_marginCommand_1 ?_
  refine gD_1_3 K hw kf_X7_306 dX7_marginCommand_4 ?_
  refine sw_l K dX7_marginCommand_7 (k := 76) (tgt := 32) (by decide) (by decide) (fun c7_76 => ?_) (fun c7_76 => ?_)
  · refine lv_aload_n K.1 K.2.1 dX7_marginCommand_32 rfl (lv_at hl 0 rfl) ?_
    refine lv_lload_n K.1 K.2.1 dX7_marginCommand_33 rfl (lv_at hl 1 rfl) ?_
    refine lv_aload_n K.1 K.2.1 dX7_marginCommand_34 rfl (lv_at hl 0 rfl) ?_
    refine gD_0_2 K hw kf_X7_26 dX7_marginCommand_35 ?_
    refine gD_3_4 K hw kf_X7_157 dX7_marginCommand_38 ?_
    refine lv_i2l K.1 K.2.1 dX7_marginCommand_41 rfl ?_
    refine lv_lmul K.1 K.2.1 dX7_marginCommand_42 ?_
    refine caV K hw (c_X7_setLeft l D a cA _ _) hl.1 (tt_V km_X7_335 kI_X7_setLeft ks_X7_setLeft ki_X7 kC_X7_setLeft) 0 (ci := 7) rfl rfl rfl (na := 1) rfl (by decide +kernel) ⟨rfl, rfl⟩ (by decide) ⟨Nat.zero_le _, Nat.zero_le _⟩ rfl (Nat.le_of_ble_eq_true rfl) dX7_marginCommand_43 (fun H locs hw => ?_)
    obtain ⟨s43, es43, hw⟩ := nmD hw
    refine lv_iconst (v := 1) K.1 K.2.1 dX7_marginCommand_46 (by decide) ?_
    have eq9 : f_X7_marginCommand σ0 x1 = (s43, 1) := (by subst es43; exact (Eq.trans (if_pos c7_76) rfl))
    exact ret (congrArg (fun z => pdW a cA z.1) eq9) (congrArg (fun z => z.2) eq9) hw dX7_marginCommand_47
  · refine sw_l K dX7_marginCommand_7 (k := 77) (tgt := 48) (by decide) (by decide) (fun c7_77 => ?_) (fun c7_77 => ?_)
    · refine lv_aload_n K.1 K.2.1 dX7_marginCommand_48 rfl (lv_at hl 0 rfl) ?_
      refine lv_lload_n K.1 K.2.1 dX7_marginCommand_49 rfl (lv_at hl 1 rfl) ?_
      refine lv_lconst (v := 1) K.1 K.2.1 dX7_marginCommand_50 (by decide) ?_
      refine lv_ladd K.1 K.2.1 dX7_marginCommand_51 ?_
      refine lv_aload_n K.1 K.2.1 dX7_marginCommand_52 rfl (lv_at hl 0 rfl) ?_
      refine gD_0_2 K hw kf_X7_26 dX7_marginCommand_53 ?_
      refine gD_3_4 K hw kf_X7_157 dX7_marginCommand_56 ?_
      refine lv_i2l K.1 K.2.1 dX7_marginCommand_59 rfl ?_
      refine lv_lmul K.1 K.2.1 dX7_marginCommand_60 ?_
      refine caV K hw (c_X7_setRight l D a cA _ _) hl.1 (tt_V km_X7_338 kI_X7_setRight ks_X7_setRight ki_X7 kC_X7_setRight) 0 (ci := 7) rfl rfl rfl (na := 1) rfl (by decide +kernel) ⟨rfl, rfl⟩ (by decide) ⟨Nat.zero_le _, Nat.zero_le _⟩ rfl (Nat.le_of_ble_eq_true rfl) dX7_marginCommand_61 (fun H locs hw => ?_)
      obtain ⟨s61, es61, hw⟩ := nmD hw
      refine lv_iconst (v := 1) K.1 K.2.1 dX7_marginCommand_64 (by decide) ?_
      have eq9 : f_X7_marginCommand σ0 x1 = (s61, 1) := (by subst es61; exact (Eq.trans (if_neg c7_76) (Eq.trans (if_pos c7_77) rfl)))
      exact ret (congrArg (fun z => pdW a cA z.1) eq9) (congrArg (fun z => z.2) eq9) hw dX7_marginCommand_65
    · refine lv_lookup (tgt := 66) (off := 59) K.1 K.2.1 dX7_marginCommand_7 (by decide) (by show Op.lookupswitch.offset [(76, 25), (77, 41)] 59 _ = 59; rw [lv_osw c7_76 (a := 76) rfl, lv_osw c7_77 (a := 77) rfl]; rfl) (by decide) ?_
      refine lv_iconst (v := 0) K.1 K.2.1 dX7_marginCommand_66 (by decide) ?_
      have eq9 : f_X7_marginCommand σ0 x1 = (σ0, 0) := (by exact (Eq.trans (if_neg c7_76) (Eq.trans (if_neg c7_77) rfl)))
      exact ret (congrArg (fun z => pdW a cA z.1) eq9) (congrArg (fun z => z.2) eq9) hw dX7_marginCommand_67
def f_X7_wrapCommand (σ0 : PS) (x1 : Int64) : PS × Int32 := (if (σ0.1 3) = 67 then (if 1 < x1 then (σ0, 1) else (if x1 = 0 then ((upS σ0 26 1), 1) else ((upS σ0 26 0), 1))) else (σ0, 0))
theorem bx_X7_wrapCommand {σ0 : PS} {x1 : Int64} (hI : Bx σ0) : Bx (f_X7_wrapCommand σ0 x1).1 := (bxI2 (fun c9 => (bxI2 (fun c16 => hI) (fun c16 => (bxI2 (fun c26 => (bxQ_26 hI (by decide) (by decide))) (fun c26 => (bxQ_26 hI (by decide) (by decide))))))) (fun c9 => hI))
abbrev rm_X7_wrapCommand : Room := { frames := 0, cells := 0, slots := 0, locals := 0 }
theorem nz_X7_wrapCommand {σ0 : PS} {x1 : Int64} : NZ (f_X7_wrapCommand σ0 x1).2 := (nzI2 (nzI2 nz1 (nzI2 nz1 nz1)) nz0)
set_option maxHeartbeats 4000000 in
set_option maxRecDepth 100000 in
theorem c_X7_wrapCommand (l : Launch) (D : va_G) (a : Nat → Nat) (cA : Nat → ClassId) (σ0 : PS) (x1 : Int64) : CI l yX7_wrapCommand cX7_wrapCommand 3 .boolean rm_X7_wrapCommand D (pdT cA) [.ref (a 0), .long x1] (pdW a cA σ0) (pdW a cA (f_X7_wrapCommand σ0 x1).1) (f_X7_wrapCommand σ0 x1).2 := by
  refine en_i (by decide +kernel) (Nat.le_of_ble_eq_true rfl) nz_X7_wrapCommand ?_
  intro p e s m args below meth c A ls Q K hw hl ret
  have hl : lv_has ls 3 [(0, .ref (a 0)), (1, .long x1)] := hl
  refine lv_aload_n K.1 K.2.1 dX7_wrapCommand_0 rfl (lv_at hl 0 rfl) ?_
  refine gD_0_0 K hw kf_X7_10 dX7_wrapCommand_1 ?_
  refine gD_1_3 K hw kf_X7_306 dX7_wrapCommand_4 ?_
  refine lv_bipush (v := 67) K.1 K.2.1 dX7_wrapCommand_7 (by decide) ?_
  refine lv_icmp_eq (tgt := 14) K.1 K.2.1 dX7_wrapCommand_9 (by decide) (fun c9 => ?_) (fun c9 => ?_)
  · refine lv_lload_n K.1 K.2.1 dX7_wrapCommand_14 rfl (lv_at hl 1 rfl) ?_
    refine lv_lconst (v := 1) K.1 K.2.1 dX7_wrapCommand_15 (by decide) ?_
    refine lc_gt (tgt := 38) K dX7_wrapCommand_16 dX7_wrapCommand_17 (by decide) (fun c16 => ?_) (fun c16 => ?_)
    · refine lv_iconst (v := 1) K.1 K.2.1 dX7_wrapCommand_38 (by decide) ?_
      have eq9 : f_X7_wrapCommand σ0 x1 = (σ0, 1) := (by exact (Eq.trans (if_pos c9) (Eq.trans (if_pos c16) rfl)))
      exact ret (congrArg (fun z => pdW a cA z.1) eq9) (congrArg (fun z => z.2) eq9) hw dX7_wrapCommand_39
    · refine lv_aload_n K.1 K.2.1 dX7_wrapCommand_20 rfl (lv_at hl 0 rfl) ?_
      refine gD_0_2 K hw kf_X7_26 dX7_wrapCommand_21 ?_
      refine lv_lload_n K.1 K.2.1 dX7_wrapCommand_24 rfl (lv_at hl 1 rfl) ?_
      refine lv_lconst (v := 0) K.1 K.2.1 dX7_wrapCommand_25 (by decide) ?_
      refine lc_ne (tgt := 34) K dX7_wrapCommand_26 dX7_wrapCommand_27 (by decide) (fun c26 => ?_) (fun c26 => ?_)
      · refine lv_iconst (v := 0) K.1 K.2.1 dX7_wrapCommand_34 (by decide) ?_
        refine pD_3_8 K hw rfl rfl kf_X7_172 dX7_wrapCommand_35 (fun H locs hw => ?_)
        refine lv_iconst (v := 1) K.1 K.2.1 dX7_wrapCommand_38 (by decide) ?_
        have eq9 : f_X7_wrapCommand σ0 x1 = ((upS σ0 26 0), 1) := (by exact (Eq.trans (if_pos c9) (Eq.trans (if_neg c16) (Eq.trans (if_neg c26) rfl))))
        exact ret (congrArg (fun z => pdW a cA z.1) eq9) (congrArg (fun z => z.2) eq9) hw dX7_wrapCommand_39
      · refine lv_iconst (v := 1) K.1 K.2.1 dX7_wrapCommand_30 (by decide) ?_
        refine lv_goto (tgt := 35) K.1 K.2.1 dX7_wrapCommand_31 (by decide) ?_
        refine pD_3_8 K hw rfl rfl kf_X7_172 dX7_wrapCommand_35 (fun H locs hw => ?_)
        refine lv_iconst (v := 1) K.1 K.2.1 dX7_wrapCommand_38 (by decide) ?_
        have eq9 : f_X7_wrapCommand σ0 x1 = ((upS σ0 26 1), 1) := (by exact (Eq.trans (if_pos c9) (Eq.trans (if_neg c16) (Eq.trans (if_pos c26) rfl))))
        exact ret (congrArg (fun z => pdW a cA z.1) eq9) (congrArg (fun z => z.2) eq9) hw dX7_wrapCommand_39
  · refine lv_iconst (v := 0) K.1 K.2.1 dX7_wrapCommand_12 (by decide) ?_
    have eq9 : f_X7_wrapCommand σ0 x1 = (σ0, 0) := (by exact (Eq.trans (if_neg c9) rfl))
    exact ret (congrArg (fun z => pdW a cA z.1) eq9) (congrArg (fun z => z.2) eq9) hw dX7_wrapCommand_13
def f_X7_stackCommand (σ0 : PS) (x1 : Int64) : PS × Int32 := (if (σ0.1 3) = 83 then (if x1 = 0 then let s24 : PS := f_X1_push σ0; (s24, 1) else (if x1 = 1 then (if (σ0.1 30) ≤ 0 then (σ0, 1) else let s76 : PS := f_X7_setX (upS σ0 30 ((σ0.1 30) - 1)) (Int32.toInt64 (σ0.2.1 1 (Int32.toNatClampNeg ((σ0.1 30) - 1)))); let s96 : PS := f_X7_setY s76 (Int32.toInt64 (s76.2.1 2 (Int32.toNatClampNeg (s76.1 30)))); (s96, 1)) else (σ0, 1))) else (σ0, 0))
theorem bx_X7_stackCommand {σ0 : PS} {x1 : Int64} (hI : Bx σ0) : Bx (f_X7_stackCommand σ0 x1).1 := (bxI2 (fun c9 => (bxI2 (fun c16 => (bx_X1_push hI)) (fun c16 => (bxI2 (fun c32 => (bxI2 (fun c43 => hI) (fun c43 => (bx_X7_setY (bx_X7_setX (bxQ_30 hI (dec1 (bxg_30 (σ := σ0) hI) c43).1 (Int.le_trans (dec1 (bxg_30 (σ := σ0) hI) c43).2 (by decide)))))))) (fun c32 => hI))))) (fun c9 => hI))
abbrev rm_X7_stackCommand : Room := { frames := 2, cells := 0, slots := 0, locals := 45 }
theorem nz_X7_stackCommand {σ0 : PS} {x1 : Int64} : NZ (f_X7_stackCommand σ0 x1).2 := (nzI2 (nzI2 nz1 (nzI2 (nzI2 nz1 nz1) nz1)) nz0)
set_option maxHeartbeats 4000000 in
set_option maxRecDepth 100000 in
theorem c_X7_stackCommand (l : Launch) (D : va_G) (a : Nat → Nat) (cA : Nat → ClassId) (σ0 : PS) (x1 : Int64) (hI : Bx σ0) : CI l yX7_stackCommand cX7_stackCommand 3 .boolean rm_X7_stackCommand D (pdT cA) [.ref (a 0), .long x1] (pdW a cA σ0) (pdW a cA (f_X7_stackCommand σ0 x1).1) (f_X7_stackCommand σ0 x1).2 := by
  refine en_i (by decide +kernel) (Nat.le_of_ble_eq_true rfl) nz_X7_stackCommand ?_
  intro p e s m args below meth c A ls Q K hw hl ret
  have hl : lv_has ls 3 [(0, .ref (a 0)), (1, .long x1)] := hl
  refine lv_aload_n K.1 K.2.1 dX7_stackCommand_0 rfl (lv_at hl 0 rfl) ?_
  refine gD_0_0 K hw kf_X7_10 dX7_stackCommand_1 ?_
  refine gD_1_3 K hw kf_X7_306 dX7_stackCommand_4 ?_
  refine lv_bipush (v := 83) K.1 K.2.1 dX7_stackCommand_7 (by decide) ?_
  refine lv_icmp_eq (tgt := 14) K.1 K.2.1 dX7_stackCommand_9 (by decide) (fun c9 => ?_) (fun c9 => ?_)
  · refine lv_lload_n K.1 K.2.1 dX7_stackCommand_14 rfl (lv_at hl 1 rfl) ?_
    refine lv_lconst (v := 0) K.1 K.2.1 dX7_stackCommand_15 (by decide) ?_
    refine lc_ne (tgt := 30) K dX7_stackCommand_16 dX7_stackCommand_17 (by decide) (fun c16 => ?_) (fun c16 => ?_)
    · refine lv_lload_n K.1 K.2.1 dX7_stackCommand_30 rfl (lv_at hl 1 rfl) ?_
      refine lv_lconst (v := 1) K.1 K.2.1 dX7_stackCommand_31 (by decide) ?_
      refine lc_ne (tgt := 99) K dX7_stackCommand_32 dX7_stackCommand_33 (by decide) (fun c32 => ?_) (fun c32 => ?_)
      · refine lv_iconst (v := 1) K.1 K.2.1 dX7_stackCommand_99 (by decide) ?_
        have eq9 : f_X7_stackCommand σ0 x1 = (σ0, 1) := (by exact (Eq.trans (if_pos c9) (Eq.trans (if_neg c16) (Eq.trans (if_neg c32) rfl))))
        exact ret (congrArg (fun z => pdW a cA z.1) eq9) (congrArg (fun z => z.2) eq9) hw dX7_stackCommand_100
      · refine lv_aload_n K.1 K.2.1 dX7_stackCommand_36 rfl (lv_at hl 0 rfl) ?_
        refine gD_0_2 K hw kf_X7_26 dX7_stackCommand_37 ?_
        refine gD_3_12 K hw kf_X7_142 dX7_stackCommand_40 ?_
        refine lv_if_le (tgt := 99) K.1 K.2.1 dX7_stackCommand_43 (by decide) (fun c43 => ?_) (fun c43 => ?_)
        · refine lv_iconst (v := 1) K.1 K.2.1 dX7_stackCommand_99 (by decide) ?_
          have eq9 : f_X7_stackCommand σ0 x1 = (σ0, 1) := (by exact (Eq.trans (if_pos c9) (Eq.trans (if_neg c16) (Eq.trans (if_pos c32) (Eq.trans (if_pos c43) rfl)))))
          exact ret (congrArg (fun z => pdW a cA z.1) eq9) (congrArg (fun z => z.2) eq9) hw dX7_stackCommand_100
        · refine lv_aload_n K.1 K.2.1 dX7_stackCommand_46 rfl (lv_at hl 0 rfl) ?_
          refine gD_0_2 K hw kf_X7_26 dX7_stackCommand_47 ?_
          refine lv_dup K.1 K.2.1 dX7_stackCommand_50 rfl ?_
          refine gD_3_12 K hw kf_X7_142 dX7_stackCommand_51 ?_
          refine lv_iconst (v := 1) K.1 K.2.1 dX7_stackCommand_54 (by decide) ?_
          refine lv_isub K.1 K.2.1 dX7_stackCommand_55 ?_
          refine pD_3_12 K hw kf_X7_142 dX7_stackCommand_56 (fun H locs hw => ?_)
          refine lv_aload_n K.1 K.2.1 dX7_stackCommand_59 rfl (lv_at hl 0 rfl) ?_
          refine lv_aload_n K.1 K.2.1 dX7_stackCommand_60 rfl (lv_at hl 0 rfl) ?_
          refine gD_0_2 K hw kf_X7_26 dX7_stackCommand_61 ?_
          refine gD_3_13 K hw kf_X7_148 dX7_stackCommand_64 ?_
          refine lv_aload_n K.1 K.2.1 dX7_stackCommand_67 rfl (lv_at hl 0 rfl) ?_
          refine gD_0_2 K hw kf_X7_26 dX7_stackCommand_68 ?_
          refine gD_3_12 K hw kf_X7_142 dX7_stackCommand_71 ?_
          refine lD_8 K hw (vDep (bxg_30 (σ := σ0) hI) c43) rfl dX7_stackCommand_74 ?_
          refine lv_i2l K.1 K.2.1 dX7_stackCommand_75 rfl ?_
          refine caV K hw (c_X7_setX l D a cA _ _) hl.1 (tt_V km_X7_80 kI_X7_setX ks_X7_setX ki_X7 kC_X7_setX) 0 (ci := 7) rfl rfl rfl (na := 1) rfl (by decide +kernel) ⟨rfl, rfl⟩ (by decide) ⟨Nat.zero_le _, Nat.zero_le _⟩ rfl (Nat.le_of_ble_eq_true rfl) dX7_stackCommand_76 (fun H locs hw => ?_)
          obtain ⟨s76, es76, hw⟩ := nmD hw
          have hI76 : Bx s76 := by rw [es76]; exact bx_X7_setX (bxQ_30 hI (dec1 (bxg_30 (σ := σ0) hI) c43).1 (Int.le_trans (dec1 (bxg_30 (σ := σ0) hI) c43).2 (by decide)))
          refine lv_aload_n K.1 K.2.1 dX7_stackCommand_79 rfl (lv_at hl 0 rfl) ?_
          refine lv_aload_n K.1 K.2.1 dX7_stackCommand_80 rfl (lv_at hl 0 rfl) ?_
          refine gD_0_2 K hw kf_X7_26 dX7_stackCommand_81 ?_
          refine gD_3_14 K hw kf_X7_145 dX7_stackCommand_84 ?_
          refine lv_aload_n K.1 K.2.1 dX7_stackCommand_87 rfl (lv_at hl 0 rfl) ?_
          refine gD_0_2 K hw kf_X7_26 dX7_stackCommand_88 ?_
          refine gD_3_12 K hw kf_X7_142 dX7_stackCommand_91 ?_
          refine lD_9 K hw (by rw [es76]; exact (vDep (bxg_30 (σ := σ0) hI) c43)) rfl dX7_stackCommand_94 ?_
          refine lv_i2l K.1 K.2.1 dX7_stackCommand_95 rfl ?_
          refine caV K hw (c_X7_setY l D a cA _ _) hl.1 (tt_V km_X7_84 kI_X7_setY ks_X7_setY ki_X7 kC_X7_setY) 0 (ci := 7) rfl rfl rfl (na := 1) rfl (by decide +kernel) ⟨rfl, rfl⟩ (by decide) ⟨Nat.zero_le _, Nat.zero_le _⟩ rfl (Nat.le_of_ble_eq_true rfl) dX7_stackCommand_96 (fun H locs hw => ?_)
          obtain ⟨s96, es96, hw⟩ := nmD hw
          have hI96 : Bx s96 := by rw [es96]; exact bx_X7_setY hI76
          refine lv_iconst (v := 1) K.1 K.2.1 dX7_stackCommand_99 (by decide) ?_
          have eq9 : f_X7_stackCommand σ0 x1 = (s96, 1) := (by subst es96 es76; exact (Eq.trans (if_pos c9) (Eq.trans (if_neg c16) (Eq.trans (if_pos c32) (Eq.trans (if_neg c43) rfl)))))
          exact ret (congrArg (fun z => pdW a cA z.1) eq9) (congrArg (fun z => z.2) eq9) hw dX7_stackCommand_100
    · refine lv_aload_n K.1 K.2.1 dX7_stackCommand_20 rfl (lv_at hl 0 rfl) ?_
      refine gD_0_2 K hw kf_X7_26 dX7_stackCommand_21 ?_
      refine caV K hw (c_X1_push l D a cA _ hI) hl.1 (tt_V km_X7_341 kI_X1_push ks_X1_push ki_X1 kC_X1_push) 3 (ci := 1) rfl rfl rfl (na := 0) rfl (by decide +kernel) ⟨rfl, rfl⟩ (by decide) ⟨Nat.zero_le _, Nat.zero_le _⟩ rfl (Nat.le_of_ble_eq_true rfl) dX7_stackCommand_24 (fun H locs hw => ?_)
      obtain ⟨s24, es24, hw⟩ := nmD hw
      have hI24 : Bx s24 := by rw [es24]; exact bx_X1_push hI
      refine lv_goto (tgt := 99) K.1 K.2.1 dX7_stackCommand_27 (by decide) ?_
      refine lv_iconst (v := 1) K.1 K.2.1 dX7_stackCommand_99 (by decide) ?_
      have eq9 : f_X7_stackCommand σ0 x1 = (s24, 1) := (by subst es24; exact (Eq.trans (if_pos c9) (Eq.trans (if_pos c16) rfl)))
      exact ret (congrArg (fun z => pdW a cA z.1) eq9) (congrArg (fun z => z.2) eq9) hw dX7_stackCommand_100
  · refine lv_iconst (v := 0) K.1 K.2.1 dX7_stackCommand_12 (by decide) ?_
    have eq9 : f_X7_stackCommand σ0 x1 = (σ0, 0) := (by exact (Eq.trans (if_neg c9) rfl))
    exact ret (congrArg (fun z => pdW a cA z.1) eq9) (congrArg (fun z => z.2) eq9) hw dX7_stackCommand_13
def g_X7_goAcross_21 (σ : PS) (y1 : Int64) (k0 : Int32) : PS := let s40 : PS := f_X7_setX σ ((Int32.toInt64 k0) + (((Int32.toInt64 (σ.1 2)) * y1) / 10000)); s40
def f_X7_goAcross (σ0 : PS) (x1 : Int64) : PS := (if (σ0.1 4) = 0 then (g_X7_goAcross_21 σ0 x1 0) else (g_X7_goAcross_21 σ0 x1 (σ0.1 24)))
theorem bx_g_X7_goAcross_21 {σ : PS} {y1 : Int64} {k0 : Int32} (hI : Bx σ) : Bx (g_X7_goAcross_21 σ y1 k0) := (bx_X7_setX hI)
theorem bx_X7_goAcross {σ0 : PS} {x1 : Int64} (hI : Bx σ0) : Bx (f_X7_goAcross σ0 x1) := (bxI (fun c7 => (bx_g_X7_goAcross_21 hI)) (fun c7 => (bx_g_X7_goAcross_21 hI)))
abbrev rm_X7_goAcross : Room := { frames := 2, cells := 0, slots := 0, locals := 45 }
set_option maxHeartbeats 4000000 in
set_option maxRecDepth 100000 in
theorem c_X7_goAcross (l : Launch) (D : va_G) (a : Nat → Nat) (cA : Nat → ClassId) (σ0 : PS) (x1 : Int64) : CV l yX7_goAcross cX7_goAcross 4 rm_X7_goAcross D (pdT cA) [.ref (a 0), .long x1] (pdW a cA σ0) (pdW a cA (f_X7_goAcross σ0 x1)) := by
  refine en_v (by decide +kernel) (Nat.le_of_ble_eq_true rfl) ?_
  intro p e s m args below meth c A ls Q K hw hl ret
  have hl : lv_has ls 4 [(0, .ref (a 0)), (1, .long x1)] := hl
  have J21 : ∀ (σ : PS) (y1 : Int64) (k0 : Int32) (H : Heap) (locs : List Loc) (ls : Array Slot), WD D A s.heap (pdW a cA σ) H locs → lv_has ls 4 [(0, .ref (a 0)), (1, .long y1)] → f_X7_goAcross σ0 x1 = g_X7_goAcross_21 σ y1 k0 → W p l e rm_X7_goAcross s m args below meth c H locs 0 0 Q (F0 m 21 ls [.int k0]) := by
    intro σ y1 k0 H locs ls hw hl e0
    refine lv_istore_n (lv' := [(3, .int k0), (0, .ref (a 0)), (1, .long y1)]) K.1 K.2.1 dX7_goAcross_21 rfl hl (by decide) rfl (fun ls hl => ?_)
    refine lv_aload_n K.1 K.2.1 dX7_goAcross_22 rfl (lv_at hl 1 rfl) ?_
    refine lv_iload_n K.1 K.2.1 dX7_goAcross_23 rfl (lv_at hl 0 rfl) ?_
    refine lv_i2l K.1 K.2.1 dX7_goAcross_24 rfl ?_
    refine lv_aload_n K.1 K.2.1 dX7_goAcross_25 rfl (lv_at hl 1 rfl) ?_
    refine gD_0_0 K hw kf_X7_10 dX7_goAcross_26 ?_
    refine gD_1_2 K hw kf_X7_266 dX7_goAcross_29 ?_
    refine lv_i2l K.1 K.2.1 dX7_goAcross_32 rfl ?_
    refine lv_lload_n K.1 K.2.1 dX7_goAcross_33 rfl (lv_at hl 2 rfl) ?_
    refine lv_lmul K.1 K.2.1 dX7_goAcross_34 ?_
    refine lv_ldc2 K.1 K.2.1 K.2.2.2.1 (K.2.2.1 _ kc_X7_269) dX7_goAcross_35 ?_
    refine lv_ldiv K.1 K.2.1 dX7_goAcross_38 (by decide) ?_
    refine lv_ladd K.1 K.2.1 dX7_goAcross_39 ?_
    refine caV K hw (c_X7_setX l D a cA _ _) hl.1 (tt_V km_X7_80 kI_X7_setX ks_X7_setX ki_X7 kC_X7_setX) 0 (ci := 7) rfl rfl rfl (na := 1) rfl (by decide +kernel) ⟨rfl, rfl⟩ (by decide) ⟨Nat.zero_le _, Nat.zero_le _⟩ rfl (Nat.le_of_ble_eq_true rfl) dX7_goAcross_40 (fun H locs hw => ?_)
    obtain ⟨s40, es40, hw⟩ := nmD hw
    exact ret (congrArg (pdW a cA) (by subst es40; exact (Eq.trans e0 rfl))) hw dX7_goAcross_43
  refine lv_aload_n K.1 K.2.1 dX7_goAcross_0 rfl (lv_at hl 0 rfl) ?_
  refine gD_0_0 K hw kf_X7_10 dX7_goAcross_1 ?_
  refine gD_1_4 K hw kf_X7_355 dX7_goAcross_4 ?_
  refine lv_if_eq (tgt := 20) K.1 K.2.1 dX7_goAcross_7 (by decide) (fun c7 => ?_) (fun c7 => ?_)
  · refine lv_iconst (v := 0) K.1 K.2.1 dX7_goAcross_20 (by decide) ?_
    exact J21 _ _ _ _ _ _ hw (lv_sub hl [0, 1] rfl) (by exact (Eq.trans (if_pos c7) rfl))
  · refine lv_aload_n K.1 K.2.1 dX7_goAcross_10 rfl (lv_at hl 0 rfl) ?_
    refine gD_0_2 K hw kf_X7_26 dX7_goAcross_11 ?_
    refine gD_3_6 K hw kf_X7_105 dX7_goAcross_14 ?_
    refine lv_goto (tgt := 21) K.1 K.2.1 dX7_goAcross_17 (by decide) ?_
    exact J21 _ _ _ _ _ _ hw (lv_sub hl [0, 1] rfl) (by exact (Eq.trans (if_neg c7) rfl))
def g_X7_goDown_21 (σ : PS) (y2 : Int64) (k0 : Int32) : PS := let s42 : PS := f_X7_setY σ ((Int32.toInt64 k0) + (((Int32.toInt64 (σ.1 2)) * y2) / 10000)); s42
def f_X7_goDown (σ0 : PS) (x1 : Int32) (x2 : Int64) : PS := (if (σ0.1 4) = 0 then (g_X7_goDown_21 σ0 x2 x1) else (g_X7_goDown_21 σ0 x2 (σ0.1 25)))
theorem bx_g_X7_goDown_21 {σ : PS} {y2 : Int64} {k0 : Int32} (hI : Bx σ) : Bx (g_X7_goDown_21 σ y2 k0) := (bx_X7_setY hI)
theorem bx_X7_goDown {σ0 : PS} {x1 : Int32} {x2 : Int64} (hI : Bx σ0) : Bx (f_X7_goDown σ0 x1 x2) := (bxI (fun c7 => (bx_g_X7_goDown_21 hI)) (fun c7 => (bx_g_X7_goDown_21 hI)))
abbrev rm_X7_goDown : Room := { frames := 2, cells := 0, slots := 0, locals := 45 }
set_option maxHeartbeats 4000000 in
set_option maxRecDepth 100000 in
theorem c_X7_goDown (l : Launch) (D : va_G) (a : Nat → Nat) (cA : Nat → ClassId) (σ0 : PS) (x1 : Int32) (x2 : Int64) : CV l yX7_goDown cX7_goDown 5 rm_X7_goDown D (pdT cA) [.ref (a 0), .int x1, .long x2] (pdW a cA σ0) (pdW a cA (f_X7_goDown σ0 x1 x2)) := by
  refine en_v (by decide +kernel) (Nat.le_of_ble_eq_true rfl) ?_
  intro p e s m args below meth c A ls Q K hw hl ret
  have hl : lv_has ls 5 [(0, .ref (a 0)), (1, .int x1), (2, .long x2)] := hl
  have J21 : ∀ (σ : PS) (y2 : Int64) (k0 : Int32) (H : Heap) (locs : List Loc) (ls : Array Slot), WD D A s.heap (pdW a cA σ) H locs → lv_has ls 5 [(0, .ref (a 0)), (2, .long y2)] → f_X7_goDown σ0 x1 x2 = g_X7_goDown_21 σ y2 k0 → W p l e rm_X7_goDown s m args below meth c H locs 0 0 Q (F0 m 21 ls [.int k0]) := by
    intro σ y2 k0 H locs ls hw hl e0
    refine lv_istore (lv' := [(4, .int k0), (0, .ref (a 0)), (2, .long y2)]) K.1 K.2.1 dX7_goDown_21 hl (by decide) rfl (fun ls hl => ?_)
    refine lv_aload_n K.1 K.2.1 dX7_goDown_23 rfl (lv_at hl 1 rfl) ?_
    refine lv_iload K.1 K.2.1 dX7_goDown_24 (lv_at hl 0 rfl) ?_
    refine lv_i2l K.1 K.2.1 dX7_goDown_26 rfl ?_
    refine lv_aload_n K.1 K.2.1 dX7_goDown_27 rfl (lv_at hl 1 rfl) ?_
    refine gD_0_0 K hw kf_X7_10 dX7_goDown_28 ?_
    refine gD_1_2 K hw kf_X7_266 dX7_goDown_31 ?_
    refine lv_i2l K.1 K.2.1 dX7_goDown_34 rfl ?_
    refine lv_lload_n K.1 K.2.1 dX7_goDown_35 rfl (lv_at hl 2 rfl) ?_
    refine lv_lmul K.1 K.2.1 dX7_goDown_36 ?_
    refine lv_ldc2 K.1 K.2.1 K.2.2.2.1 (K.2.2.1 _ kc_X7_269) dX7_goDown_37 ?_
    refine lv_ldiv K.1 K.2.1 dX7_goDown_40 (by decide) ?_
    refine lv_ladd K.1 K.2.1 dX7_goDown_41 ?_
    refine caV K hw (c_X7_setY l D a cA _ _) hl.1 (tt_V km_X7_84 kI_X7_setY ks_X7_setY ki_X7 kC_X7_setY) 0 (ci := 7) rfl rfl rfl (na := 1) rfl (by decide +kernel) ⟨rfl, rfl⟩ (by decide) ⟨Nat.zero_le _, Nat.zero_le _⟩ rfl (Nat.le_of_ble_eq_true rfl) dX7_goDown_42 (fun H locs hw => ?_)
    obtain ⟨s42, es42, hw⟩ := nmD hw
    exact ret (congrArg (pdW a cA) (by subst es42; exact (Eq.trans e0 rfl))) hw dX7_goDown_45
  refine lv_aload_n K.1 K.2.1 dX7_goDown_0 rfl (lv_at hl 0 rfl) ?_
  refine gD_0_0 K hw kf_X7_10 dX7_goDown_1 ?_
  refine gD_1_4 K hw kf_X7_355 dX7_goDown_4 ?_
  refine lv_if_eq (tgt := 20) K.1 K.2.1 dX7_goDown_7 (by decide) (fun c7 => ?_) (fun c7 => ?_)
  · refine lv_iload_n K.1 K.2.1 dX7_goDown_20 rfl (lv_at hl 1 rfl) ?_
    exact J21 _ _ _ _ _ _ hw (lv_sub hl [0, 2] rfl) (by exact (Eq.trans (if_pos c7) rfl))
  · refine lv_aload_n K.1 K.2.1 dX7_goDown_10 rfl (lv_at hl 0 rfl) ?_
    refine gD_0_2 K hw kf_X7_26 dX7_goDown_11 ?_
    refine gD_3_7 K hw kf_X7_108 dX7_goDown_14 ?_
    refine lv_goto (tgt := 21) K.1 K.2.1 dX7_goDown_17 (by decide) ?_
    exact J21 _ _ _ _ _ _ hw (lv_sub hl [0, 2] rfl) (by exact (Eq.trans (if_neg c7) rfl))
def f_X7_cursorCommand (σ0 : PS) : PS × Int32 := (if (σ0.1 3) = 67 then let s57 : PS := f_X7_goAcross σ0 (Int32.toInt64 (σ0.1 22)); (s57, 1) else (if (σ0.1 3) = 72 then let s66 : PS := f_X7_goAcross σ0 10; (s66, 1) else (if (σ0.1 3) = 82 then let s87 : PS := f_X7_goDown σ0 (f_X1_home σ0) (Int32.toInt64 (σ0.1 23)); (s87, 1) else (if (σ0.1 3) = 86 then let s103 : PS := f_X7_goDown σ0 (σ0.1 18) 10; (s103, 1) else (σ0, 0)))))
theorem bx_X7_cursorCommand {σ0 : PS} (hI : Bx σ0) : Bx (f_X7_cursorCommand σ0).1 := (bxI2 (fun c7_67 => (bx_X7_goAcross hI)) (fun c7_67 => (bxI2 (fun c7_72 => (bx_X7_goAcross hI)) (fun c7_72 => (bxI2 (fun c7_82 => (bx_X7_goDown hI)) (fun c7_82 => (bxI2 (fun c7_86 => (bx_X7_goDown hI)) (fun c7_86 => hI))))))))
abbrev rm_X7_cursorCommand : Room := { frames := 3, cells := 0, slots := 0, locals := 69 }
theorem nz_X7_cursorCommand {σ0 : PS} : NZ (f_X7_cursorCommand σ0).2 := (nzI2 nz1 (nzI2 nz1 (nzI2 nz1 (nzI2 nz1 nz0))))
set_option maxHeartbeats 4000000 in
set_option maxRecDepth 100000 in
theorem c_X7_cursorCommand (l : Launch) (D : va_G) (a : Nat → Nat) (cA : Nat → ClassId) (σ0 : PS) : CI l yX7_cursorCommand cX7_cursorCommand 1 .boolean rm_X7_cursorCommand D (pdT cA) [.ref (a 0)] (pdW a cA σ0) (pdW a cA (f_X7_cursorCommand σ0).1) (f_X7_cursorCommand σ0).2 := by
  refine en_i (by decide +kernel) (Nat.le_of_ble_eq_true rfl) nz_X7_cursorCommand ?_
  intro p e s m args below meth c A ls Q K hw hl ret
  have hl : lv_has ls 1 [(0, .ref (a 0))] := hl
  refine lv_aload_n K.1 K.2.1 dX7_cursorCommand_0 rfl (lv_at hl 0 rfl) ?_
  refine gD_0_0 K hw kf_X7_10 dX7_cursorCommand_1 ?_
  refine gD_1_3 K hw kf_X7_306 dX7_cursorCommand_4 ?_
  refine sw_l K dX7_cursorCommand_7 (k := 67) (tgt := 48) (by decide) (by decide) (fun c7_67 => ?_) (fun c7_67 => ?_)
  · refine lv_aload_n K.1 K.2.1 dX7_cursorCommand_48 rfl (lv_at hl 0 rfl) ?_
    refine lv_aload_n K.1 K.2.1 dX7_cursorCommand_49 rfl (lv_at hl 0 rfl) ?_
    refine gD_0_2 K hw kf_X7_26 dX7_cursorCommand_50 ?_
    refine gD_3_4 K hw kf_X7_157 dX7_cursorCommand_53 ?_
    refine lv_i2l K.1 K.2.1 dX7_cursorCommand_56 rfl ?_
    refine caV K hw (c_X7_goAcross l D a cA _ _) hl.1 (tt_V km_X7_344 kI_X7_goAcross ks_X7_goAcross ki_X7 kC_X7_goAcross) 0 (ci := 7) rfl rfl rfl (na := 1) rfl (by decide +kernel) ⟨rfl, rfl⟩ (by decide) ⟨Nat.zero_le _, Nat.zero_le _⟩ rfl (Nat.le_of_ble_eq_true rfl) dX7_cursorCommand_57 (fun H locs hw => ?_)
    obtain ⟨s57, es57, hw⟩ := nmD hw
    refine lv_iconst (v := 1) K.1 K.2.1 dX7_cursorCommand_60 (by decide) ?_
    have eq9 : f_X7_cursorCommand σ0 = (s57, 1) := (by subst es57; exact (Eq.trans (if_pos c7_67) rfl))
    exact ret (congrArg (fun z => pdW a cA z.1) eq9) (congrArg (fun z => z.2) eq9) hw dX7_cursorCommand_61
  · refine sw_l K dX7_cursorCommand_7 (k := 72) (tgt := 62) (by decide) (by decide) (fun c7_72 => ?_) (fun c7_72 => ?_)
    · refine lv_aload_n K.1 K.2.1 dX7_cursorCommand_62 rfl (lv_at hl 0 rfl) ?_
      refine lv_ldc2 K.1 K.2.1 K.2.2.2.1 (K.2.2.1 _ kc_X7_347) dX7_cursorCommand_63 ?_
      refine caV K hw (c_X7_goAcross l D a cA _ _) hl.1 (tt_V km_X7_344 kI_X7_goAcross ks_X7_goAcross ki_X7 kC_X7_goAcross) 0 (ci := 7) rfl rfl rfl (na := 1) rfl (by decide +kernel) ⟨rfl, rfl⟩ (by decide) ⟨Nat.zero_le _, Nat.zero_le _⟩ rfl (Nat.le_of_ble_eq_true rfl) dX7_cursorCommand_66 (fun H locs hw => ?_)
      obtain ⟨s66, es66, hw⟩ := nmD hw
      refine lv_iconst (v := 1) K.1 K.2.1 dX7_cursorCommand_69 (by decide) ?_
      have eq9 : f_X7_cursorCommand σ0 = (s66, 1) := (by subst es66; exact (Eq.trans (if_neg c7_67) (Eq.trans (if_pos c7_72) rfl)))
      exact ret (congrArg (fun z => pdW a cA z.1) eq9) (congrArg (fun z => z.2) eq9) hw dX7_cursorCommand_70
    · refine sw_l K dX7_cursorCommand_7 (k := 82) (tgt := 71) (by decide) (by decide) (fun c7_82 => ?_) (fun c7_82 => ?_)
      · refine lv_aload_n K.1 K.2.1 dX7_cursorCommand_71 rfl (lv_at hl 0 rfl) ?_
        refine lv_aload_n K.1 K.2.1 dX7_cursorCommand_72 rfl (lv_at hl 0 rfl) ?_
        refine gD_0_2 K hw kf_X7_26 dX7_cursorCommand_73 ?_
        refine caI K hw (c_X1_home l D a cA _) hl.1 (tt_V km_X7_225 kI_X1_home ks_X1_home ki_X1 kC_X1_home) 3 (ci := 1) rfl rfl rfl (na := 0) rfl (by decide +kernel) ⟨rfl, rfl⟩ (by decide) ⟨Nat.zero_le _, Nat.zero_le _⟩ rfl (Nat.le_of_ble_eq_true rfl) dX7_cursorCommand_76 (fun H locs hw => ?_)
        refine lv_aload_n K.1 K.2.1 dX7_cursorCommand_79 rfl (lv_at hl 0 rfl) ?_
        refine gD_0_2 K hw kf_X7_26 dX7_cursorCommand_80 ?_
        refine gD_3_5 K hw kf_X7_160 dX7_cursorCommand_83 ?_
        refine lv_i2l K.1 K.2.1 dX7_cursorCommand_86 rfl ?_
        refine caV K hw (c_X7_goDown l D a cA _ _ _) hl.1 (tt_V km_X7_349 kI_X7_goDown ks_X7_goDown ki_X7 kC_X7_goDown) 0 (ci := 7) rfl rfl rfl (na := 2) rfl (by decide +kernel) ⟨rfl, rfl⟩ (by decide) ⟨Nat.zero_le _, Nat.zero_le _⟩ rfl (Nat.le_of_ble_eq_true rfl) dX7_cursorCommand_87 (fun H locs hw => ?_)
        obtain ⟨s87, es87, hw⟩ := nmD hw
        refine lv_iconst (v := 1) K.1 K.2.1 dX7_cursorCommand_90 (by decide) ?_
        have eq9 : f_X7_cursorCommand σ0 = (s87, 1) := (by subst es87; exact (Eq.trans (if_neg c7_67) (Eq.trans (if_neg c7_72) (Eq.trans (if_pos c7_82) rfl))))
        exact ret (congrArg (fun z => pdW a cA z.1) eq9) (congrArg (fun z => z.2) eq9) hw dX7_cursorCommand_91
      · refine sw_l K dX7_cursorCommand_7 (k := 86) (tgt := 92) (by decide) (by decide) (fun c7_86 => ?_) (fun c7_86 => ?_)
        · refine lv_aload_n K.1 K.2.1 dX7_cursorCommand_92 rfl (lv_at hl 0 rfl) ?_
          refine lv_aload_n K.1 K.2.1 dX7_cursorCommand_93 rfl (lv_at hl 0 rfl) ?_
          refine gD_0_2 K hw kf_X7_26 dX7_cursorCommand_94 ?_
          refine gD_3_0 K hw kf_X7_151 dX7_cursorCommand_97 ?_
          refine lv_ldc2 K.1 K.2.1 K.2.2.2.1 (K.2.2.1 _ kc_X7_347) dX7_cursorCommand_100 ?_
          refine caV K hw (c_X7_goDown l D a cA _ _ _) hl.1 (tt_V km_X7_349 kI_X7_goDown ks_X7_goDown ki_X7 kC_X7_goDown) 0 (ci := 7) rfl rfl rfl (na := 2) rfl (by decide +kernel) ⟨rfl, rfl⟩ (by decide) ⟨Nat.zero_le _, Nat.zero_le _⟩ rfl (Nat.le_of_ble_eq_true rfl) dX7_cursorCommand_103 (fun H locs hw => ?_)
          obtain ⟨s103, es103, hw⟩ := nmD hw
          refine lv_iconst (v := 1) K.1 K.2.1 dX7_cursorCommand_106 (by decide) ?_
          have eq9 : f_X7_cursorCommand σ0 = (s103, 1) := (by subst es103; exact (Eq.trans (if_neg c7_67) (Eq.trans (if_neg c7_72) (Eq.trans (if_neg c7_82) (Eq.trans (if_pos c7_86) rfl)))))
          exact ret (congrArg (fun z => pdW a cA z.1) eq9) (congrArg (fun z => z.2) eq9) hw dX7_cursorCommand_107
        · refine lv_lookup (tgt := 108) (off := 101) K.1 K.2.1 dX7_cursorCommand_7 (by decide) (by show Op.lookupswitch.offset [(67, 41), (72, 55), (82, 64), (86, 85)] 101 _ = 101; rw [lv_osw c7_67 (a := 67) rfl, lv_osw c7_72 (a := 72) rfl, lv_osw c7_82 (a := 82) rfl, lv_osw c7_86 (a := 86) rfl]; rfl) (by decide) ?_
          refine lv_iconst (v := 0) K.1 K.2.1 dX7_cursorCommand_108 (by decide) ?_
          have eq9 : f_X7_cursorCommand σ0 = (σ0, 0) := (by exact (Eq.trans (if_neg c7_67) (Eq.trans (if_neg c7_72) (Eq.trans (if_neg c7_82) (Eq.trans (if_neg c7_86) rfl)))))
          exact ret (congrArg (fun z => pdW a cA z.1) eq9) (congrArg (fun z => z.2) eq9) hw dX7_cursorCommand_109
def f_X7_dotCommand (σ0 : PS) : PS × Int32 := (if (σ0.1 3) = 88 then let s36 : PS := f_X7_goAcross σ0 24; (s36, 1) else (if (σ0.1 3) = 89 then let s52 : PS := f_X7_goDown σ0 (σ0.1 18) 24; (s52, 1) else (σ0, 0)))
theorem bx_X7_dotCommand {σ0 : PS} (hI : Bx σ0) : Bx (f_X7_dotCommand σ0).1 := (bxI2 (fun c7_88 => (bx_X7_goAcross hI)) (fun c7_88 => (bxI2 (fun c7_89 => (bx_X7_goDown hI)) (fun c7_89 => hI))))
abbrev rm_X7_dotCommand : Room := { frames := 3, cells := 0, slots := 0, locals := 69 }
theorem nz_X7_dotCommand {σ0 : PS} : NZ (f_X7_dotCommand σ0).2 := (nzI2 nz1 (nzI2 nz1 nz0))
set_option maxHeartbeats 4000000 in
set_option maxRecDepth 100000 in
theorem c_X7_dotCommand (l : Launch) (D : va_G) (a : Nat → Nat) (cA : Nat → ClassId) (σ0 : PS) : CI l yX7_dotCommand cX7_dotCommand 1 .boolean rm_X7_dotCommand D (pdT cA) [.ref (a 0)] (pdW a cA σ0) (pdW a cA (f_X7_dotCommand σ0).1) (f_X7_dotCommand σ0).2 := by
  refine en_i (by decide +kernel) (Nat.le_of_ble_eq_true rfl) nz_X7_dotCommand ?_
  intro p e s m args below meth c A ls Q K hw hl ret
  have hl : lv_has ls 1 [(0, .ref (a 0))] := hl
  refine lv_aload_n K.1 K.2.1 dX7_dotCommand_0 rfl (lv_at hl 0 rfl) ?_
  refine gD_0_0 K hw kf_X7_10 dX7_dotCommand_1 ?_
  refine gD_1_3 K hw kf_X7_306 dX7_dotCommand_4 ?_
  refine sw_l K dX7_dotCommand_7 (k := 88) (tgt := 32) (by decide) (by decide) (fun c7_88 => ?_) (fun c7_88 => ?_)
  · refine lv_aload_n K.1 K.2.1 dX7_dotCommand_32 rfl (lv_at hl 0 rfl) ?_
    refine lv_ldc2 K.1 K.2.1 K.2.2.2.1 (K.2.2.1 _ kc_X7_353) dX7_dotCommand_33 ?_
    refine caV K hw (c_X7_goAcross l D a cA _ _) hl.1 (tt_V km_X7_344 kI_X7_goAcross ks_X7_goAcross ki_X7 kC_X7_goAcross) 0 (ci := 7) rfl rfl rfl (na := 1) rfl (by decide +kernel) ⟨rfl, rfl⟩ (by decide) ⟨Nat.zero_le _, Nat.zero_le _⟩ rfl (Nat.le_of_ble_eq_true rfl) dX7_dotCommand_36 (fun H locs hw => ?_)
    obtain ⟨s36, es36, hw⟩ := nmD hw
    refine lv_iconst (v := 1) K.1 K.2.1 dX7_dotCommand_39 (by decide) ?_
    have eq9 : f_X7_dotCommand σ0 = (s36, 1) := (by subst es36; exact (Eq.trans (if_pos c7_88) rfl))
    exact ret (congrArg (fun z => pdW a cA z.1) eq9) (congrArg (fun z => z.2) eq9) hw dX7_dotCommand_40
  · refine sw_l K dX7_dotCommand_7 (k := 89) (tgt := 41) (by decide) (by decide) (fun c7_89 => ?_) (fun c7_89 => ?_)
    · refine lv_aload_n K.1 K.2.1 dX7_dotCommand_41 rfl (lv_at hl 0 rfl) ?_
      refine lv_aload_n K.1 K.2.1 dX7_dotCommand_42 rfl (lv_at hl 0 rfl) ?_
      refine gD_0_2 K hw kf_X7_26 dX7_dotCommand_43 ?_
      refine gD_3_0 K hw kf_X7_151 dX7_dotCommand_46 ?_
      refine lv_ldc2 K.1 K.2.1 K.2.2.2.1 (K.2.2.1 _ kc_X7_353) dX7_dotCommand_49 ?_
      refine caV K hw (c_X7_goDown l D a cA _ _ _) hl.1 (tt_V km_X7_349 kI_X7_goDown ks_X7_goDown ki_X7 kC_X7_goDown) 0 (ci := 7) rfl rfl rfl (na := 2) rfl (by decide +kernel) ⟨rfl, rfl⟩ (by decide) ⟨Nat.zero_le _, Nat.zero_le _⟩ rfl (Nat.le_of_ble_eq_true rfl) dX7_dotCommand_52 (fun H locs hw => ?_)
      obtain ⟨s52, es52, hw⟩ := nmD hw
      refine lv_iconst (v := 1) K.1 K.2.1 dX7_dotCommand_55 (by decide) ?_
      have eq9 : f_X7_dotCommand σ0 = (s52, 1) := (by subst es52; exact (Eq.trans (if_neg c7_88) (Eq.trans (if_pos c7_89) rfl)))
      exact ret (congrArg (fun z => pdW a cA z.1) eq9) (congrArg (fun z => z.2) eq9) hw dX7_dotCommand_56
    · refine lv_lookup (tgt := 57) (off := 50) K.1 K.2.1 dX7_dotCommand_7 (by decide) (by show Op.lookupswitch.offset [(88, 25), (89, 34)] 50 _ = 50; rw [lv_osw c7_88 (a := 88) rfl, lv_osw c7_89 (a := 89) rfl]; rfl) (by decide) ?_
      refine lv_iconst (v := 0) K.1 K.2.1 dX7_dotCommand_57 (by decide) ?_
      have eq9 : f_X7_dotCommand σ0 = (σ0, 0) := (by exact (Eq.trans (if_neg c7_88) (Eq.trans (if_neg c7_89) rfl)))
      exact ret (congrArg (fun z => pdW a cA z.1) eq9) (congrArg (fun z => z.2) eq9) hw dX7_dotCommand_58
def f_X7_pageCommand (σ0 : PS) (x1 : Int64) (x3 : Int64) : PS × Int32 := (if (σ0.1 3) = 65 then (if (f_X4_isSize x3) = 0 then (σ0, 1) else let s133 : PS := f_X7_changePaper σ0 (Int64.toInt32 x3) (σ0.1 14); (s133, 1)) else (if (σ0.1 3) = 66 then (σ0, 0) else (if (σ0.1 3) = 67 then let s187 : PS := f_X7_setStepDown σ0 ((150 * x1) / 10000); (s187, 1) else (if (σ0.1 3) = 68 then let s195 : PS := f_X7_setLinesPerInch σ0 (Int64.toInt32 x3); (s195, 1) else (if (σ0.1 3) = 69 then let s211 : PS := f_X7_setTop σ0 (x3 * (Int32.toInt64 (σ0.1 23))); (s211, 1) else (if (σ0.1 3) = 70 then let s227 : PS := f_X7_setLength σ0 (x3 * (Int32.toInt64 (σ0.1 23))); (s227, 1) else (if (σ0.1 3) = 71 then (σ0, 0) else (if (σ0.1 3) = 72 then (σ0, 0) else (if (σ0.1 3) = 73 then (σ0, 0) else (if (σ0.1 3) = 74 then (σ0, 0) else (if (σ0.1 3) = 75 then (σ0, 0) else (if (σ0.1 3) = 76 then (if 1 < x3 then (σ0, 1) else (if x3 = 1 then ((upS σ0 27 1), 1) else ((upS σ0 27 0), 1))) else (if (σ0.1 3) = 77 then (σ0, 0) else (if (σ0.1 3) = 78 then (σ0, 0) else (if (σ0.1 3) = 79 then (if 3 < x3 then (σ0, 1) else let s156 : PS := f_X7_changePaper σ0 (σ0.1 13) (Int64.toInt32 x3); (s156, 1)) else (if (σ0.1 3) = 80 then (σ0, 0) else (if (σ0.1 3) = 81 then (σ0, 0) else (if (σ0.1 3) = 82 then (σ0, 0) else (if (σ0.1 3) = 83 then (σ0, 0) else (if (σ0.1 3) = 84 then (σ0, 0) else (if (σ0.1 3) = 85 then (σ0, 0) else (if (σ0.1 3) = 86 then (σ0, 0) else (if (σ0.1 3) = 87 then (σ0, 0) else (if (σ0.1 3) = 88 then ((upS σ0 15 (f_X7_within x3 1 99)), 1) else (σ0, 0)))))))))))))))))))))))))
theorem bx_X7_pageCommand {σ0 : PS} {x1 : Int64} {x3 : Int64} (hI : Bx σ0) : Bx (f_X7_pageCommand σ0 x1 x3).1 := (bxI2 (fun c7_65 => (bxI2 (fun c120 => hI) (fun c120 => (bx_X7_changePaper hI)))) (fun c7_65 => (bxI2 (fun c7_66 => hI) (fun c7_66 => (bxI2 (fun c7_67 => (bx_X7_setStepDown hI)) (fun c7_67 => (bxI2 (fun c7_68 => (bx_X7_setLinesPerInch hI)) (fun c7_68 => (bxI2 (fun c7_69 => (bx_X7_setTop hI)) (fun c7_69 => (bxI2 (fun c7_70 => (bx_X7_setLength hI)) (fun c7_70 => (bxI2 (fun c7_71 => hI) (fun c7_71 => (bxI2 (fun c7_72 => hI) (fun c7_72 => (bxI2 (fun c7_73 => hI) (fun c7_73 => (bxI2 (fun c7_74 => hI) (fun c7_74 => (bxI2 (fun c7_75 => hI) (fun c7_75 => (bxI2 (fun c7_76 => (bxI2 (fun c234 => hI) (fun c234 => (bxI2 (fun c244 => (bxQ_27 hI (by decide) (by decide))) (fun c244 => (bxQ_27 hI (by decide) (by decide))))))) (fun c7_76 => (bxI2 (fun c7_77 => hI) (fun c7_77 => (bxI2 (fun c7_78 => hI) (fun c7_78 => (bxI2 (fun c7_79 => (bxI2 (fun c142 => hI) (fun c142 => (bx_X7_changePaper hI)))) (fun c7_79 => (bxI2 (fun c7_80 => hI) (fun c7_80 => (bxI2 (fun c7_81 => hI) (fun c7_81 => (bxI2 (fun c7_82 => hI) (fun c7_82 => (bxI2 (fun c7_83 => hI) (fun c7_83 => (bxI2 (fun c7_84 => hI) (fun c7_84 => (bxI2 (fun c7_85 => hI) (fun c7_85 => (bxI2 (fun c7_86 => hI) (fun c7_86 => (bxI2 (fun c7_87 => hI) (fun c7_87 => (bxI2 (fun c7_88 => (bxS_15 hI)) (fun c7_88 => hI))))))))))))))))))))))))))))))))))))))))))))))))
abbrev rm_X7_pageCommand : Room := { frames := 4, cells := 0, slots := 0, locals := 87 }
theorem nz_X7_pageCommand {σ0 : PS} {x1 : Int64} {x3 : Int64} : NZ (f_X7_pageCommand σ0 x1 x3).2 := (nzI2 (nzI2 nz1 nz1) (nzI2 nz0 (nzI2 nz1 (nzI2 nz1 (nzI2 nz1 (nzI2 nz1 (nzI2 nz0 (nzI2 nz0 (nzI2 nz0 (nzI2 nz0 (nzI2 nz0 (nzI2 (nzI2 nz1 (nzI2 nz1 nz1)) (nzI2 nz0 (nzI2 nz0 (nzI2 (nzI2 nz1 nz1) (nzI2 nz0 (nzI2 nz0 (nzI2 nz0 (nzI2 nz0 (nzI2 nz0 (nzI2 nz0 (nzI2 nz0 (nzI2 nz0 (nzI2 nz1 nz0))))))))))))))))))))))))
set_option maxHeartbeats 4000000 in
set_option maxRecDepth 100000 in
theorem c_X7_pageCommand (l : Launch) (D : va_G) (a : Nat → Nat) (cA : Nat → ClassId) (σ0 : PS) (x1 : Int64) (x3 : Int64) : CI l yX7_pageCommand cX7_pageCommand 5 .boolean rm_X7_pageCommand D (pdT cA) [.ref (a 0), .long x1, .long x3] (pdW a cA σ0) (pdW a cA (f_X7_pageCommand σ0 x1 x3).1) (f_X7_pageCommand σ0 x1 x3).2 := by
  refine en_i (by decide +kernel) (Nat.le_of_ble_eq_true rfl) nz_X7_pageCommand ?_
  intro p e s m args below meth c A ls Q K hw hl ret
  have hl : lv_has ls 5 [(0, .ref (a 0)), (1, .long x1), (3, .long x3)] := hl
  refine lv_aload_n K.1 K.2.1 dX7_pageCommand_0 rfl (lv_at hl 0 rfl) ?_
  refine gD_0_0 K hw kf_X7_10 dX7_pageCommand_1 ?_
  refine gD_1_3 K hw kf_X7_306 dX7_pageCommand_4 ?_
  refine sw_t K dX7_pageCommand_7 (k := 65) (tgt := 116) (by decide) (by decide) (fun c7_65 => ?_) (fun c7_65 => ?_)
  · refine lv_lload_n K.1 K.2.1 dX7_pageCommand_116 rfl (lv_at hl 2 rfl) ?_
    refine caS K hw (c_X4_isSize l D a cA _ _) hl.1 km_X7_309 kS_X4_isSize ki_X4 kC_X4_isSize (na := 1) rfl (by decide +kernel) ⟨rfl, rfl⟩ (by decide) ⟨Nat.zero_le _, Nat.zero_le _⟩ rfl (Nat.le_of_ble_eq_true rfl) dX7_pageCommand_117 (fun H locs hw => ?_)
    refine lv_if_eq (tgt := 136) K.1 K.2.1 dX7_pageCommand_120 (by decide) (fun c120 => ?_) (fun c120 => ?_)
    · refine lv_iconst (v := 1) K.1 K.2.1 dX7_pageCommand_136 (by decide) ?_
      have eq9 : f_X7_pageCommand σ0 x1 x3 = (σ0, 1) := (by exact (Eq.trans (if_pos c7_65) (Eq.trans (if_pos c120) rfl)))
      exact ret (congrArg (fun z => pdW a cA z.1) eq9) (congrArg (fun z => z.2) eq9) hw dX7_pageCommand_137
    · refine lv_aload_n K.1 K.2.1 dX7_pageCommand_123 rfl (lv_at hl 0 rfl) ?_
      refine lv_lload_n K.1 K.2.1 dX7_pageCommand_124 rfl (lv_at hl 2 rfl) ?_
      refine lv_l2i K.1 K.2.1 dX7_pageCommand_125 rfl ?_
      refine lv_aload_n K.1 K.2.1 dX7_pageCommand_126 rfl (lv_at hl 0 rfl) ?_
      refine gD_0_1 K hw kf_X7_19 dX7_pageCommand_127 ?_
      refine gD_2_1 K hw kf_X7_169 dX7_pageCommand_130 ?_
      refine caV K hw (c_X7_changePaper l D a cA _ _ _) hl.1 (tt_V km_X7_312 kI_X7_changePaper ks_X7_changePaper ki_X7 kC_X7_changePaper) 0 (ci := 7) rfl rfl rfl (na := 2) rfl (by decide +kernel) ⟨rfl, rfl⟩ (by decide) ⟨Nat.zero_le _, Nat.zero_le _⟩ rfl (Nat.le_of_ble_eq_true rfl) dX7_pageCommand_133 (fun H locs hw => ?_)
      obtain ⟨s133, es133, hw⟩ := nmD hw
      refine lv_iconst (v := 1) K.1 K.2.1 dX7_pageCommand_136 (by decide) ?_
      have eq9 : f_X7_pageCommand σ0 x1 x3 = (s133, 1) := (by subst es133; exact (Eq.trans (if_pos c7_65) (Eq.trans (if_neg c120) rfl)))
      exact ret (congrArg (fun z => pdW a cA z.1) eq9) (congrArg (fun z => z.2) eq9) hw dX7_pageCommand_137
  · refine sw_t K dX7_pageCommand_7 (k := 66) (tgt := 258) (by decide) (by decide) (fun c7_66 => ?_) (fun c7_66 => ?_)
    · refine lv_iconst (v := 0) K.1 K.2.1 dX7_pageCommand_258 (by decide) ?_
      have eq9 : f_X7_pageCommand σ0 x1 x3 = (σ0, 0) := (by exact (Eq.trans (if_neg c7_65) (Eq.trans (if_pos c7_66) rfl)))
      exact ret (congrArg (fun z => pdW a cA z.1) eq9) (congrArg (fun z => z.2) eq9) hw dX7_pageCommand_259
    · refine sw_t K dX7_pageCommand_7 (k := 67) (tgt := 177) (by decide) (by decide) (fun c7_67 => ?_) (fun c7_67 => ?_)
      · refine lv_aload_n K.1 K.2.1 dX7_pageCommand_177 rfl (lv_at hl 0 rfl) ?_
        refine lv_ldc2 K.1 K.2.1 K.2.2.2.1 (K.2.2.1 _ kc_X7_317) dX7_pageCommand_178 ?_
        refine lv_lload_n K.1 K.2.1 dX7_pageCommand_181 rfl (lv_at hl 1 rfl) ?_
        refine lv_lmul K.1 K.2.1 dX7_pageCommand_182 ?_
        refine lv_ldc2 K.1 K.2.1 K.2.2.2.1 (K.2.2.1 _ kc_X7_269) dX7_pageCommand_183 ?_
        refine lv_ldiv K.1 K.2.1 dX7_pageCommand_186 (by decide) ?_
        refine caV K hw (c_X7_setStepDown l D a cA _ _) hl.1 (tt_V km_X7_319 kI_X7_setStepDown ks_X7_setStepDown ki_X7 kC_X7_setStepDown) 0 (ci := 7) rfl rfl rfl (na := 1) rfl (by decide +kernel) ⟨rfl, rfl⟩ (by decide) ⟨Nat.zero_le _, Nat.zero_le _⟩ rfl (Nat.le_of_ble_eq_true rfl) dX7_pageCommand_187 (fun H locs hw => ?_)
        obtain ⟨s187, es187, hw⟩ := nmD hw
        refine lv_iconst (v := 1) K.1 K.2.1 dX7_pageCommand_190 (by decide) ?_
        have eq9 : f_X7_pageCommand σ0 x1 x3 = (s187, 1) := (by subst es187; exact (Eq.trans (if_neg c7_65) (Eq.trans (if_neg c7_66) (Eq.trans (if_pos c7_67) rfl))))
        exact ret (congrArg (fun z => pdW a cA z.1) eq9) (congrArg (fun z => z.2) eq9) hw dX7_pageCommand_191
      · refine sw_t K dX7_pageCommand_7 (k := 68) (tgt := 192) (by decide) (by decide) (fun c7_68 => ?_) (fun c7_68 => ?_)
        · refine lv_aload_n K.1 K.2.1 dX7_pageCommand_192 rfl (lv_at hl 0 rfl) ?_
          refine lv_lload_n K.1 K.2.1 dX7_pageCommand_193 rfl (lv_at hl 2 rfl) ?_
          refine lv_l2i K.1 K.2.1 dX7_pageCommand_194 rfl ?_
          refine caV K hw (c_X7_setLinesPerInch l D a cA _ _) hl.1 (tt_V km_X7_322 kI_X7_setLinesPerInch ks_X7_setLinesPerInch ki_X7 kC_X7_setLinesPerInch) 0 (ci := 7) rfl rfl rfl (na := 1) rfl (by decide +kernel) ⟨rfl, rfl⟩ (by decide) ⟨Nat.zero_le _, Nat.zero_le _⟩ rfl (Nat.le_of_ble_eq_true rfl) dX7_pageCommand_195 (fun H locs hw => ?_)
          obtain ⟨s195, es195, hw⟩ := nmD hw
          refine lv_iconst (v := 1) K.1 K.2.1 dX7_pageCommand_198 (by decide) ?_
          have eq9 : f_X7_pageCommand σ0 x1 x3 = (s195, 1) := (by subst es195; exact (Eq.trans (if_neg c7_65) (Eq.trans (if_neg c7_66) (Eq.trans (if_neg c7_67) (Eq.trans (if_pos c7_68) rfl)))))
          exact ret (congrArg (fun z => pdW a cA z.1) eq9) (congrArg (fun z => z.2) eq9) hw dX7_pageCommand_199
        · refine sw_t K dX7_pageCommand_7 (k := 69) (tgt := 200) (by decide) (by decide) (fun c7_69 => ?_) (fun c7_69 => ?_)
          · refine lv_aload_n K.1 K.2.1 dX7_pageCommand_200 rfl (lv_at hl 0 rfl) ?_
            refine lv_lload_n K.1 K.2.1 dX7_pageCommand_201 rfl (lv_at hl 2 rfl) ?_
            refine lv_aload_n K.1 K.2.1 dX7_pageCommand_202 rfl (lv_at hl 0 rfl) ?_
            refine gD_0_2 K hw kf_X7_26 dX7_pageCommand_203 ?_
            refine gD_3_5 K hw kf_X7_160 dX7_pageCommand_206 ?_
            refine lv_i2l K.1 K.2.1 dX7_pageCommand_209 rfl ?_
            refine lv_lmul K.1 K.2.1 dX7_pageCommand_210 ?_
            refine caV K hw (c_X7_setTop l D a cA _ _) hl.1 (tt_V km_X7_325 kI_X7_setTop ks_X7_setTop ki_X7 kC_X7_setTop) 0 (ci := 7) rfl rfl rfl (na := 1) rfl (by decide +kernel) ⟨rfl, rfl⟩ (by decide) ⟨Nat.zero_le _, Nat.zero_le _⟩ rfl (Nat.le_of_ble_eq_true rfl) dX7_pageCommand_211 (fun H locs hw => ?_)
            obtain ⟨s211, es211, hw⟩ := nmD hw
            refine lv_iconst (v := 1) K.1 K.2.1 dX7_pageCommand_214 (by decide) ?_
            have eq9 : f_X7_pageCommand σ0 x1 x3 = (s211, 1) := (by subst es211; exact (Eq.trans (if_neg c7_65) (Eq.trans (if_neg c7_66) (Eq.trans (if_neg c7_67) (Eq.trans (if_neg c7_68) (Eq.trans (if_pos c7_69) rfl))))))
            exact ret (congrArg (fun z => pdW a cA z.1) eq9) (congrArg (fun z => z.2) eq9) hw dX7_pageCommand_215
          · refine sw_t K dX7_pageCommand_7 (k := 70) (tgt := 216) (by decide) (by decide) (fun c7_70 => ?_) (fun c7_70 => ?_)
            · refine lv_aload_n K.1 K.2.1 dX7_pageCommand_216 rfl (lv_at hl 0 rfl) ?_
              refine lv_lload_n K.1 K.2.1 dX7_pageCommand_217 rfl (lv_at hl 2 rfl) ?_
              refine lv_aload_n K.1 K.2.1 dX7_pageCommand_218 rfl (lv_at hl 0 rfl) ?_
              refine gD_0_2 K hw kf_X7_26 dX7_pageCommand_219 ?_
              refine gD_3_5 K hw kf_X7_160 dX7_pageCommand_222 ?_
              refine lv_i2l K.1 K.2.1 dX7_pageCommand_225 rfl ?_
              refine lv_lmul K.1 K.2.1 dX7_pageCommand_226 ?_
              refine caV K hw (c_X7_setLength l D a cA _ _) hl.1 (tt_V km_X7_328 kI_X7_setLength ks_X7_setLength ki_X7 kC_X7_setLength) 0 (ci := 7) rfl rfl rfl (na := 1) rfl (by decide +kernel) ⟨rfl, rfl⟩ (by decide) ⟨Nat.zero_le _, Nat.zero_le _⟩ rfl (Nat.le_of_ble_eq_true rfl) dX7_pageCommand_227 (fun H locs hw => ?_)
              obtain ⟨s227, es227, hw⟩ := nmD hw
              refine lv_iconst (v := 1) K.1 K.2.1 dX7_pageCommand_230 (by decide) ?_
              have eq9 : f_X7_pageCommand σ0 x1 x3 = (s227, 1) := (by subst es227; exact (Eq.trans (if_neg c7_65) (Eq.trans (if_neg c7_66) (Eq.trans (if_neg c7_67) (Eq.trans (if_neg c7_68) (Eq.trans (if_neg c7_69) (Eq.trans (if_pos c7_70) rfl)))))))
              exact ret (congrArg (fun z => pdW a cA z.1) eq9) (congrArg (fun z => z.2) eq9) hw dX7_pageCommand_231
            · refine sw_t K dX7_pageCommand_7 (k := 71) (tgt := 258) (by decide) (by decide) (fun c7_71 => ?_) (fun c7_71 => ?_)
              · refine lv_iconst (v := 0) K.1 K.2.1 dX7_pageCommand_258 (by decide) ?_
                have eq9 : f_X7_pageCommand σ0 x1 x3 = (σ0, 0) := (by exact (Eq.trans (if_neg c7_65) (Eq.trans (if_neg c7_66) (Eq.trans (if_neg c7_67) (Eq.trans (if_neg c7_68) (Eq.trans (if_neg c7_69) (Eq.trans (if_neg c7_70) (Eq.trans (if_pos c7_71) rfl))))))))
                exact ret (congrArg (fun z => pdW a cA z.1) eq9) (congrArg (fun z => z.2) eq9) hw dX7_pageCommand_259
              · refine sw_t K dX7_pageCommand_7 (k := 72) (tgt := 258) (by decide) (by decide) (fun c7_72 => ?_) (fun c7_72 => ?_)
                · refine lv_iconst (v := 0) K.1 K.2.1 dX7_pageCommand_258 (by decide) ?_
                  have eq9 : f_X7_pageCommand σ0 x1 x3 = (σ0, 0) := (by exact (Eq.trans (if_neg c7_65) (Eq.trans (if_neg c7_66) (Eq.trans (if_neg c7_67) (Eq.trans (if_neg c7_68) (Eq.trans (if_neg c7_69) (Eq.trans (if_neg c7_70) (Eq.trans (if_neg c7_71) (Eq.trans (if_pos c7_72) rfl)))))))))
                  exact ret (congrArg (fun z => pdW a cA z.1) eq9) (congrArg (fun z => z.2) eq9) hw dX7_pageCommand_259
                · refine sw_t K dX7_pageCommand_7 (k := 73) (tgt := 258) (by decide) (by decide) (fun c7_73 => ?_) (fun c7_73 => ?_)
                  · refine lv_iconst (v := 0) K.1 K.2.1 dX7_pageCommand_258 (by decide) ?_
                    have eq9 : f_X7_pageCommand σ0 x1 x3 = (σ0, 0) := (by exact (Eq.trans (if_neg c7_65) (Eq.trans (if_neg c7_66) (Eq.trans (if_neg c7_67) (Eq.trans (if_neg c7_68) (Eq.trans (if_neg c7_69) (Eq.trans (if_neg c7_70) (Eq.trans (if_neg c7_71) (Eq.trans (if_neg c7_72) (Eq.trans (if_pos c7_73) rfl))))))))))
                    exact ret (congrArg (fun z => pdW a cA z.1) eq9) (congrArg (fun z => z.2) eq9) hw dX7_pageCommand_259
                  · refine sw_t K dX7_pageCommand_7 (k := 74) (tgt := 258) (by decide) (by decide) (fun c7_74 => ?_) (fun c7_74 => ?_)
                    · refine lv_iconst (v := 0) K.1 K.2.1 dX7_pageCommand_258 (by decide) ?_
                      have eq9 : f_X7_pageCommand σ0 x1 x3 = (σ0, 0) := (by exact (Eq.trans (if_neg c7_65) (Eq.trans (if_neg c7_66) (Eq.trans (if_neg c7_67) (Eq.trans (if_neg c7_68) (Eq.trans (if_neg c7_69) (Eq.trans (if_neg c7_70) (Eq.trans (if_neg c7_71) (Eq.trans (if_neg c7_72) (Eq.trans (if_neg c7_73) (Eq.trans (if_pos c7_74) rfl)))))))))))
                      exact ret (congrArg (fun z => pdW a cA z.1) eq9) (congrArg (fun z => z.2) eq9) hw dX7_pageCommand_259
                    · refine sw_t K dX7_pageCommand_7 (k := 75) (tgt := 258) (by decide) (by decide) (fun c7_75 => ?_) (fun c7_75 => ?_)
                      · refine lv_iconst (v := 0) K.1 K.2.1 dX7_pageCommand_258 (by decide) ?_
                        have eq9 : f_X7_pageCommand σ0 x1 x3 = (σ0, 0) := (by exact (Eq.trans (if_neg c7_65) (Eq.trans (if_neg c7_66) (Eq.trans (if_neg c7_67) (Eq.trans (if_neg c7_68) (Eq.trans (if_neg c7_69) (Eq.trans (if_neg c7_70) (Eq.trans (if_neg c7_71) (Eq.trans (if_neg c7_72) (Eq.trans (if_neg c7_73) (Eq.trans (if_neg c7_74) (Eq.trans (if_pos c7_75) rfl))))))))))))
                        exact ret (congrArg (fun z => pdW a cA z.1) eq9) (congrArg (fun z => z.2) eq9) hw dX7_pageCommand_259
                      · refine sw_t K dX7_pageCommand_7 (k := 76) (tgt := 232) (by decide) (by decide) (fun c7_76 => ?_) (fun c7_76 => ?_)
                        · refine lv_lload_n K.1 K.2.1 dX7_pageCommand_232 rfl (lv_at hl 2 rfl) ?_
                          refine lv_lconst (v := 1) K.1 K.2.1 dX7_pageCommand_233 (by decide) ?_
                          refine lc_gt (tgt := 256) K dX7_pageCommand_234 dX7_pageCommand_235 (by decide) (fun c234 => ?_) (fun c234 => ?_)
                          · refine lv_iconst (v := 1) K.1 K.2.1 dX7_pageCommand_256 (by decide) ?_
                            have eq9 : f_X7_pageCommand σ0 x1 x3 = (σ0, 1) := (by exact (Eq.trans (if_neg c7_65) (Eq.trans (if_neg c7_66) (Eq.trans (if_neg c7_67) (Eq.trans (if_neg c7_68) (Eq.trans (if_neg c7_69) (Eq.trans (if_neg c7_70) (Eq.trans (if_neg c7_71) (Eq.trans (if_neg c7_72) (Eq.trans (if_neg c7_73) (Eq.trans (if_neg c7_74) (Eq.trans (if_neg c7_75) (Eq.trans (if_pos c7_76) (Eq.trans (if_pos c234) rfl))))))))))))))
                            exact ret (congrArg (fun z => pdW a cA z.1) eq9) (congrArg (fun z => z.2) eq9) hw dX7_pageCommand_257
                          · refine lv_aload_n K.1 K.2.1 dX7_pageCommand_238 rfl (lv_at hl 0 rfl) ?_
                            refine gD_0_2 K hw kf_X7_26 dX7_pageCommand_239 ?_
                            refine lv_lload_n K.1 K.2.1 dX7_pageCommand_242 rfl (lv_at hl 2 rfl) ?_
                            refine lv_lconst (v := 1) K.1 K.2.1 dX7_pageCommand_243 (by decide) ?_
                            refine lc_ne (tgt := 252) K dX7_pageCommand_244 dX7_pageCommand_245 (by decide) (fun c244 => ?_) (fun c244 => ?_)
                            · refine lv_iconst (v := 0) K.1 K.2.1 dX7_pageCommand_252 (by decide) ?_
                              refine pD_3_9 K hw rfl rfl kf_X7_175 dX7_pageCommand_253 (fun H locs hw => ?_)
                              refine lv_iconst (v := 1) K.1 K.2.1 dX7_pageCommand_256 (by decide) ?_
                              have eq9 : f_X7_pageCommand σ0 x1 x3 = ((upS σ0 27 0), 1) := (by exact (Eq.trans (if_neg c7_65) (Eq.trans (if_neg c7_66) (Eq.trans (if_neg c7_67) (Eq.trans (if_neg c7_68) (Eq.trans (if_neg c7_69) (Eq.trans (if_neg c7_70) (Eq.trans (if_neg c7_71) (Eq.trans (if_neg c7_72) (Eq.trans (if_neg c7_73) (Eq.trans (if_neg c7_74) (Eq.trans (if_neg c7_75) (Eq.trans (if_pos c7_76) (Eq.trans (if_neg c234) (Eq.trans (if_neg c244) rfl)))))))))))))))
                              exact ret (congrArg (fun z => pdW a cA z.1) eq9) (congrArg (fun z => z.2) eq9) hw dX7_pageCommand_257
                            · refine lv_iconst (v := 1) K.1 K.2.1 dX7_pageCommand_248 (by decide) ?_
                              refine lv_goto (tgt := 253) K.1 K.2.1 dX7_pageCommand_249 (by decide) ?_
                              refine pD_3_9 K hw rfl rfl kf_X7_175 dX7_pageCommand_253 (fun H locs hw => ?_)
                              refine lv_iconst (v := 1) K.1 K.2.1 dX7_pageCommand_256 (by decide) ?_
                              have eq9 : f_X7_pageCommand σ0 x1 x3 = ((upS σ0 27 1), 1) := (by exact (Eq.trans (if_neg c7_65) (Eq.trans (if_neg c7_66) (Eq.trans (if_neg c7_67) (Eq.trans (if_neg c7_68) (Eq.trans (if_neg c7_69) (Eq.trans (if_neg c7_70) (Eq.trans (if_neg c7_71) (Eq.trans (if_neg c7_72) (Eq.trans (if_neg c7_73) (Eq.trans (if_neg c7_74) (Eq.trans (if_neg c7_75) (Eq.trans (if_pos c7_76) (Eq.trans (if_neg c234) (Eq.trans (if_pos c244) rfl)))))))))))))))
                              exact ret (congrArg (fun z => pdW a cA z.1) eq9) (congrArg (fun z => z.2) eq9) hw dX7_pageCommand_257
                        · refine sw_t K dX7_pageCommand_7 (k := 77) (tgt := 258) (by decide) (by decide) (fun c7_77 => ?_) (fun c7_77 => ?_)
                          · refine lv_iconst (v := 0) K.1 K.2.1 dX7_pageCommand_258 (by decide) ?_
                            have eq9 : f_X7_pageCommand σ0 x1 x3 = (σ0, 0) := (by exact (Eq.trans (if_neg c7_65) (Eq.trans (if_neg c7_66) (Eq.trans (if_neg c7_67) (Eq.trans (if_neg c7_68) (Eq.trans (if_neg c7_69) (Eq.trans (if_neg c7_70) (Eq.trans (if_neg c7_71) (Eq.trans (if_neg c7_72) (Eq.trans (if_neg c7_73) (Eq.trans (if_neg c7_74) (Eq.trans (if_neg c7_75) (Eq.trans (if_neg c7_76) (Eq.trans (if_pos c7_77) rfl))))))))))))))
                            exact ret (congrArg (fun z => pdW a cA z.1) eq9) (congrArg (fun z => z.2) eq9) hw dX7_pageCommand_259
                          · refine sw_t K dX7_pageCommand_7 (k := 78) (tgt := 258) (by decide) (by decide) (fun c7_78 => ?_) (fun c7_78 => ?_)
                            · refine lv_iconst (v := 0) K.1 K.2.1 dX7_pageCommand_258 (by decide) ?_
                              have eq9 : f_X7_pageCommand σ0 x1 x3 = (σ0, 0) := (by exact (Eq.trans (if_neg c7_65) (Eq.trans (if_neg c7_66) (Eq.trans (if_neg c7_67) (Eq.trans (if_neg c7_68) (Eq.trans (if_neg c7_69) (Eq.trans (if_neg c7_70) (Eq.trans (if_neg c7_71) (Eq.trans (if_neg c7_72) (Eq.trans (if_neg c7_73) (Eq.trans (if_neg c7_74) (Eq.trans (if_neg c7_75) (Eq.trans (if_neg c7_76) (Eq.trans (if_neg c7_77) (Eq.trans (if_pos c7_78) rfl)))))))))))))))
                              exact ret (congrArg (fun z => pdW a cA z.1) eq9) (congrArg (fun z => z.2) eq9) hw dX7_pageCommand_259
                            · refine sw_t K dX7_pageCommand_7 (k := 79) (tgt := 138) (by decide) (by decide) (fun c7_79 => ?_) (fun c7_79 => ?_)
                              · refine lv_lload_n K.1 K.2.1 dX7_pageCommand_138 rfl (lv_at hl 2 rfl) ?_
                                refine lv_ldc2 K.1 K.2.1 K.2.2.2.1 (K.2.2.1 _ kc_X7_315) dX7_pageCommand_139 ?_
                                refine lc_gt (tgt := 159) K dX7_pageCommand_142 dX7_pageCommand_143 (by decide) (fun c142 => ?_) (fun c142 => ?_)
                                · refine lv_iconst (v := 1) K.1 K.2.1 dX7_pageCommand_159 (by decide) ?_
                                  have eq9 : f_X7_pageCommand σ0 x1 x3 = (σ0, 1) := (by exact (Eq.trans (if_neg c7_65) (Eq.trans (if_neg c7_66) (Eq.trans (if_neg c7_67) (Eq.trans (if_neg c7_68) (Eq.trans (if_neg c7_69) (Eq.trans (if_neg c7_70) (Eq.trans (if_neg c7_71) (Eq.trans (if_neg c7_72) (Eq.trans (if_neg c7_73) (Eq.trans (if_neg c7_74) (Eq.trans (if_neg c7_75) (Eq.trans (if_neg c7_76) (Eq.trans (if_neg c7_77) (Eq.trans (if_neg c7_78) (Eq.trans (if_pos c7_79) (Eq.trans (if_pos c142) rfl)))))))))))))))))
                                  exact ret (congrArg (fun z => pdW a cA z.1) eq9) (congrArg (fun z => z.2) eq9) hw dX7_pageCommand_160
                                · refine lv_aload_n K.1 K.2.1 dX7_pageCommand_146 rfl (lv_at hl 0 rfl) ?_
                                  refine lv_aload_n K.1 K.2.1 dX7_pageCommand_147 rfl (lv_at hl 0 rfl) ?_
                                  refine gD_0_1 K hw kf_X7_19 dX7_pageCommand_148 ?_
                                  refine gD_2_0 K hw kf_X7_166 dX7_pageCommand_151 ?_
                                  refine lv_lload_n K.1 K.2.1 dX7_pageCommand_154 rfl (lv_at hl 2 rfl) ?_
                                  refine lv_l2i K.1 K.2.1 dX7_pageCommand_155 rfl ?_
                                  refine caV K hw (c_X7_changePaper l D a cA _ _ _) hl.1 (tt_V km_X7_312 kI_X7_changePaper ks_X7_changePaper ki_X7 kC_X7_changePaper) 0 (ci := 7) rfl rfl rfl (na := 2) rfl (by decide +kernel) ⟨rfl, rfl⟩ (by decide) ⟨Nat.zero_le _, Nat.zero_le _⟩ rfl (Nat.le_of_ble_eq_true rfl) dX7_pageCommand_156 (fun H locs hw => ?_)
                                  obtain ⟨s156, es156, hw⟩ := nmD hw
                                  refine lv_iconst (v := 1) K.1 K.2.1 dX7_pageCommand_159 (by decide) ?_
                                  have eq9 : f_X7_pageCommand σ0 x1 x3 = (s156, 1) := (by subst es156; exact (Eq.trans (if_neg c7_65) (Eq.trans (if_neg c7_66) (Eq.trans (if_neg c7_67) (Eq.trans (if_neg c7_68) (Eq.trans (if_neg c7_69) (Eq.trans (if_neg c7_70) (Eq.trans (if_neg c7_71) (Eq.trans (if_neg c7_72) (Eq.trans (if_neg c7_73) (Eq.trans (if_neg c7_74) (Eq.trans (if_neg c7_75) (Eq.trans (if_neg c7_76) (Eq.trans (if_neg c7_77) (Eq.trans (if_neg c7_78) (Eq.trans (if_pos c7_79) (Eq.trans (if_neg c142) rfl)))))))))))))))))
                                  exact ret (congrArg (fun z => pdW a cA z.1) eq9) (congrArg (fun z => z.2) eq9) hw dX7_pageCommand_160
                              · refine sw_t K dX7_pageCommand_7 (k := 80) (tgt := 258) (by decide) (by decide) (fun c7_80 => ?_) (fun c7_80 => ?_)
                                · refine lv_iconst (v := 0) K.1 K.2.1 dX7_pageCommand_258 (by decide) ?_
                                  have eq9 : f_X7_pageCommand σ0 x1 x3 = (σ0, 0) := (by exact (Eq.trans (if_neg c7_65) (Eq.trans (if_neg c7_66) (Eq.trans (if_neg c7_67) (Eq.trans (if_neg c7_68) (Eq.trans (if_neg c7_69) (Eq.trans (if_neg c7_70) (Eq.trans (if_neg c7_71) (Eq.trans (if_neg c7_72) (Eq.trans (if_neg c7_73) (Eq.trans (if_neg c7_74) (Eq.trans (if_neg c7_75) (Eq.trans (if_neg c7_76) (Eq.trans (if_neg c7_77) (Eq.trans (if_neg c7_78) (Eq.trans (if_neg c7_79) (Eq.trans (if_pos c7_80) rfl)))))))))))))))))
                                  exact ret (congrArg (fun z => pdW a cA z.1) eq9) (congrArg (fun z => z.2) eq9) hw dX7_pageCommand_259
                                · refine sw_t K dX7_pageCommand_7 (k := 81) (tgt := 258) (by decide) (by decide) (fun c7_81 => ?_) (fun c7_81 => ?_)
                                  · refine lv_iconst (v := 0) K.1 K.2.1 dX7_pageCommand_258 (by decide) ?_
                                    have eq9 : f_X7_pageCommand σ0 x1 x3 = (σ0, 0) := (by exact (Eq.trans (if_neg c7_65) (Eq.trans (if_neg c7_66) (Eq.trans (if_neg c7_67) (Eq.trans (if_neg c7_68) (Eq.trans (if_neg c7_69) (Eq.trans (if_neg c7_70) (Eq.trans (if_neg c7_71) (Eq.trans (if_neg c7_72) (Eq.trans (if_neg c7_73) (Eq.trans (if_neg c7_74) (Eq.trans (if_neg c7_75) (Eq.trans (if_neg c7_76) (Eq.trans (if_neg c7_77) (Eq.trans (if_neg c7_78) (Eq.trans (if_neg c7_79) (Eq.trans (if_neg c7_80) (Eq.trans (if_pos c7_81) rfl))))))))))))))))))
                                    exact ret (congrArg (fun z => pdW a cA z.1) eq9) (congrArg (fun z => z.2) eq9) hw dX7_pageCommand_259
                                  · refine sw_t K dX7_pageCommand_7 (k := 82) (tgt := 258) (by decide) (by decide) (fun c7_82 => ?_) (fun c7_82 => ?_)
                                    · refine lv_iconst (v := 0) K.1 K.2.1 dX7_pageCommand_258 (by decide) ?_
                                      have eq9 : f_X7_pageCommand σ0 x1 x3 = (σ0, 0) := (by exact (Eq.trans (if_neg c7_65) (Eq.trans (if_neg c7_66) (Eq.trans (if_neg c7_67) (Eq.trans (if_neg c7_68) (Eq.trans (if_neg c7_69) (Eq.trans (if_neg c7_70) (Eq.trans (if_neg c7_71) (Eq.trans (if_neg c7_72) (Eq.trans (if_neg c7_73) (Eq.trans (if_neg c7_74) (Eq.trans (if_neg c7_75) (Eq.trans (if_neg c7_76) (Eq.trans (if_neg c7_77) (Eq.trans (if_neg c7_78) (Eq.trans (if_neg c7_79) (Eq.trans (if_neg c7_80) (Eq.trans (if_neg c7_81) (Eq.trans (if_pos c7_82) rfl)))))))))))))))))))
                                      exact ret (congrArg (fun z => pdW a cA z.1) eq9) (congrArg (fun z => z.2) eq9) hw dX7_pageCommand_259
                                    · refine sw_t K dX7_pageCommand_7 (k := 83) (tgt := 258) (by decide) (by decide) (fun c7_83 => ?_) (fun c7_83 => ?_)
                                      · refine lv_iconst (v := 0) K.1 K.2.1 dX7_pageCommand_258 (by decide) ?_
                                        have eq9 : f_X7_pageCommand σ0 x1 x3 = (σ0, 0) := (by exact (Eq.trans (if_neg c7_65) (Eq.trans (if_neg c7_66) (Eq.trans (if_neg c7_67) (Eq.trans (if_neg c7_68) (Eq.trans (if_neg c7_69) (Eq.trans (if_neg c7_70) (Eq.trans (if_neg c7_71) (Eq.trans (if_neg c7_72) (Eq.trans (if_neg c7_73) (Eq.trans (if_neg c7_74) (Eq.trans (if_neg c7_75) (Eq.trans (if_neg c7_76) (Eq.trans (if_neg c7_77) (Eq.trans (if_neg c7_78) (Eq.trans (if_neg c7_79) (Eq.trans (if_neg c7_80) (Eq.trans (if_neg c7_81) (Eq.trans (if_neg c7_82) (Eq.trans (if_pos c7_83) rfl))))))))))))))))))))
                                        exact ret (congrArg (fun z => pdW a cA z.1) eq9) (congrArg (fun z => z.2) eq9) hw dX7_pageCommand_259
                                      · refine sw_t K dX7_pageCommand_7 (k := 84) (tgt := 258) (by decide) (by decide) (fun c7_84 => ?_) (fun c7_84 => ?_)
                                        · refine lv_iconst (v := 0) K.1 K.2.1 dX7_pageCommand_258 (by decide) ?_
                                          have eq9 : f_X7_pageCommand σ0 x1 x3 = (σ0, 0) := (by exact (Eq.trans (if_neg c7_65) (Eq.trans (if_neg c7_66) (Eq.trans (if_neg c7_67) (Eq.trans (if_neg c7_68) (Eq.trans (if_neg c7_69) (Eq.trans (if_neg c7_70) (Eq.trans (if_neg c7_71) (Eq.trans (if_neg c7_72) (Eq.trans (if_neg c7_73) (Eq.trans (if_neg c7_74) (Eq.trans (if_neg c7_75) (Eq.trans (if_neg c7_76) (Eq.trans (if_neg c7_77) (Eq.trans (if_neg c7_78) (Eq.trans (if_neg c7_79) (Eq.trans (if_neg c7_80) (Eq.trans (if_neg c7_81) (Eq.trans (if_neg c7_82) (Eq.trans (if_neg c7_83) (Eq.trans (if_pos c7_84) rfl)))))))))))))))))))))
                                          exact ret (congrArg (fun z => pdW a cA z.1) eq9) (congrArg (fun z => z.2) eq9) hw dX7_pageCommand_259
                                        · refine sw_t K dX7_pageCommand_7 (k := 85) (tgt := 258) (by decide) (by decide) (fun c7_85 => ?_) (fun c7_85 => ?_)
                                          · refine lv_iconst (v := 0) K.1 K.2.1 dX7_pageCommand_258 (by decide) ?_
                                            have eq9 : f_X7_pageCommand σ0 x1 x3 = (σ0, 0) := (by exact (Eq.trans (if_neg c7_65) (Eq.trans (if_neg c7_66) (Eq.trans (if_neg c7_67) (Eq.trans (if_neg c7_68) (Eq.trans (if_neg c7_69) (Eq.trans (if_neg c7_70) (Eq.trans (if_neg c7_71) (Eq.trans (if_neg c7_72) (Eq.trans (if_neg c7_73) (Eq.trans (if_neg c7_74) (Eq.trans (if_neg c7_75) (Eq.trans (if_neg c7_76) (Eq.trans (if_neg c7_77) (Eq.trans (if_neg c7_78) (Eq.trans (if_neg c7_79) (Eq.trans (if_neg c7_80) (Eq.trans (if_neg c7_81) (Eq.trans (if_neg c7_82) (Eq.trans (if_neg c7_83) (Eq.trans (if_neg c7_84) (Eq.trans (if_pos c7_85) rfl))))))))))))))))))))))
                                            exact ret (congrArg (fun z => pdW a cA z.1) eq9) (congrArg (fun z => z.2) eq9) hw dX7_pageCommand_259
                                          · refine sw_t K dX7_pageCommand_7 (k := 86) (tgt := 258) (by decide) (by decide) (fun c7_86 => ?_) (fun c7_86 => ?_)
                                            · refine lv_iconst (v := 0) K.1 K.2.1 dX7_pageCommand_258 (by decide) ?_
                                              have eq9 : f_X7_pageCommand σ0 x1 x3 = (σ0, 0) := (by exact (Eq.trans (if_neg c7_65) (Eq.trans (if_neg c7_66) (Eq.trans (if_neg c7_67) (Eq.trans (if_neg c7_68) (Eq.trans (if_neg c7_69) (Eq.trans (if_neg c7_70) (Eq.trans (if_neg c7_71) (Eq.trans (if_neg c7_72) (Eq.trans (if_neg c7_73) (Eq.trans (if_neg c7_74) (Eq.trans (if_neg c7_75) (Eq.trans (if_neg c7_76) (Eq.trans (if_neg c7_77) (Eq.trans (if_neg c7_78) (Eq.trans (if_neg c7_79) (Eq.trans (if_neg c7_80) (Eq.trans (if_neg c7_81) (Eq.trans (if_neg c7_82) (Eq.trans (if_neg c7_83) (Eq.trans (if_neg c7_84) (Eq.trans (if_neg c7_85) (Eq.trans (if_pos c7_86) rfl)))))))))))))))))))))))
                                              exact ret (congrArg (fun z => pdW a cA z.1) eq9) (congrArg (fun z => z.2) eq9) hw dX7_pageCommand_259
                                            · refine sw_t K dX7_pageCommand_7 (k := 87) (tgt := 258) (by decide) (by decide) (fun c7_87 => ?_) (fun c7_87 => ?_)
                                              · refine lv_iconst (v := 0) K.1 K.2.1 dX7_pageCommand_258 (by decide) ?_
                                                have eq9 : f_X7_pageCommand σ0 x1 x3 = (σ0, 0) := (by exact (Eq.trans (if_neg c7_65) (Eq.trans (if_neg c7_66) (Eq.trans (if_neg c7_67) (Eq.trans (if_neg c7_68) (Eq.trans (if_neg c7_69) (Eq.trans (if_neg c7_70) (Eq.trans (if_neg c7_71) (Eq.trans (if_neg c7_72) (Eq.trans (if_neg c7_73) (Eq.trans (if_neg c7_74) (Eq.trans (if_neg c7_75) (Eq.trans (if_neg c7_76) (Eq.trans (if_neg c7_77) (Eq.trans (if_neg c7_78) (Eq.trans (if_neg c7_79) (Eq.trans (if_neg c7_80) (Eq.trans (if_neg c7_81) (Eq.trans (if_neg c7_82) (Eq.trans (if_neg c7_83) (Eq.trans (if_neg c7_84) (Eq.trans (if_neg c7_85) (Eq.trans (if_neg c7_86) (Eq.trans (if_pos c7_87) rfl))))))))))))))))))))))))
                                                exact ret (congrArg (fun z => pdW a cA z.1) eq9) (congrArg (fun z => z.2) eq9) hw dX7_pageCommand_259
                                              · refine sw_t K dX7_pageCommand_7 (k := 88) (tgt := 161) (by decide) (by decide) (fun c7_88 => ?_) (fun c7_88 => ?_)
                                                · refine lv_aload_n K.1 K.2.1 dX7_pageCommand_161 rfl (lv_at hl 0 rfl) ?_
                                                  refine gD_0_1 K hw kf_X7_19 dX7_pageCommand_162 ?_
                                                  refine lv_lload_n K.1 K.2.1 dX7_pageCommand_165 rfl (lv_at hl 2 rfl) ?_
                                                  refine lv_iconst (v := 1) K.1 K.2.1 dX7_pageCommand_166 (by decide) ?_
                                                  refine lv_bipush (v := 99) K.1 K.2.1 dX7_pageCommand_167 (by decide) ?_
                                                  refine caS K hw (c_X7_within l D a cA _ _ _ _) hl.1 km_X7_98 kS_X7_within ki_X7 kC_X7_within (na := 3) rfl (by decide +kernel) ⟨rfl, rfl⟩ (by decide) ⟨Nat.zero_le _, Nat.zero_le _⟩ rfl (Nat.le_of_ble_eq_true rfl) dX7_pageCommand_169 (fun H locs hw => ?_)
                                                  refine pD_2_2 K hw kf_X7_181 dX7_pageCommand_172 (fun H locs hw => ?_)
                                                  refine lv_iconst (v := 1) K.1 K.2.1 dX7_pageCommand_175 (by decide) ?_
                                                  have eq9 : f_X7_pageCommand σ0 x1 x3 = ((upS σ0 15 (f_X7_within x3 1 99)), 1) := (by exact (Eq.trans (if_neg c7_65) (Eq.trans (if_neg c7_66) (Eq.trans (if_neg c7_67) (Eq.trans (if_neg c7_68) (Eq.trans (if_neg c7_69) (Eq.trans (if_neg c7_70) (Eq.trans (if_neg c7_71) (Eq.trans (if_neg c7_72) (Eq.trans (if_neg c7_73) (Eq.trans (if_neg c7_74) (Eq.trans (if_neg c7_75) (Eq.trans (if_neg c7_76) (Eq.trans (if_neg c7_77) (Eq.trans (if_neg c7_78) (Eq.trans (if_neg c7_79) (Eq.trans (if_neg c7_80) (Eq.trans (if_neg c7_81) (Eq.trans (if_neg c7_82) (Eq.trans (if_neg c7_83) (Eq.trans (if_neg c7_84) (Eq.trans (if_neg c7_85) (Eq.trans (if_neg c7_86) (Eq.trans (if_neg c7_87) (Eq.trans (if_pos c7_88) rfl)))))))))))))))))))))))))
                                                  exact ret (congrArg (fun z => pdW a cA z.1) eq9) (congrArg (fun z => z.2) eq9) hw dX7_pageCommand_176
                                                · refine lv_tableOut (tgt := 258) K.1 K.2.1 dX7_pageCommand_7 (by have h0 := lv_neT c7_65 (a := 65) rfl; have h1 := lv_neT c7_66 (a := 66) rfl; have h2 := lv_neT c7_67 (a := 67) rfl; have h3 := lv_neT c7_68 (a := 68) rfl; have h4 := lv_neT c7_69 (a := 69) rfl; have h5 := lv_neT c7_70 (a := 70) rfl; have h6 := lv_neT c7_71 (a := 71) rfl; have h7 := lv_neT c7_72 (a := 72) rfl; have h8 := lv_neT c7_73 (a := 73) rfl; have h9 := lv_neT c7_74 (a := 74) rfl; have h10 := lv_neT c7_75 (a := 75) rfl; have h11 := lv_neT c7_76 (a := 76) rfl; have h12 := lv_neT c7_77 (a := 77) rfl; have h13 := lv_neT c7_78 (a := 78) rfl; have h14 := lv_neT c7_79 (a := 79) rfl; have h15 := lv_neT c7_80 (a := 80) rfl; have h16 := lv_neT c7_81 (a := 81) rfl; have h17 := lv_neT c7_82 (a := 82) rfl; have h18 := lv_neT c7_83 (a := 83) rfl; have h19 := lv_neT c7_84 (a := 84) rfl; have h20 := lv_neT c7_85 (a := 85) rfl; have h21 := lv_neT c7_86 (a := 86) rfl; have h22 := lv_neT c7_87 (a := 87) rfl; have h23 := lv_neT c7_88 (a := 88) rfl; omega) (by decide) ?_
                                                  refine lv_iconst (v := 0) K.1 K.2.1 dX7_pageCommand_258 (by decide) ?_
                                                  have eq9 : f_X7_pageCommand σ0 x1 x3 = (σ0, 0) := (by exact (Eq.trans (if_neg c7_65) (Eq.trans (if_neg c7_66) (Eq.trans (if_neg c7_67) (Eq.trans (if_neg c7_68) (Eq.trans (if_neg c7_69) (Eq.trans (if_neg c7_70) (Eq.trans (if_neg c7_71) (Eq.trans (if_neg c7_72) (Eq.trans (if_neg c7_73) (Eq.trans (if_neg c7_74) (Eq.trans (if_neg c7_75) (Eq.trans (if_neg c7_76) (Eq.trans (if_neg c7_77) (Eq.trans (if_neg c7_78) (Eq.trans (if_neg c7_79) (Eq.trans (if_neg c7_80) (Eq.trans (if_neg c7_81) (Eq.trans (if_neg c7_82) (Eq.trans (if_neg c7_83) (Eq.trans (if_neg c7_84) (Eq.trans (if_neg c7_85) (Eq.trans (if_neg c7_86) (Eq.trans (if_neg c7_87) (Eq.trans (if_neg c7_88) rfl)))))))))))))))))))))))))
                                                  exact ret (congrArg (fun z => pdW a cA z.1) eq9) (congrArg (fun z => z.2) eq9) hw dX7_pageCommand_259
