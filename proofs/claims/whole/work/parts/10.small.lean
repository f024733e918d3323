def f_X4_isSize (x0 : Int64) : Int32 := (if x0 = 1 then 1 else (if x0 = 2 then 1 else (if x0 = 3 then 1 else (if x0 = 6 then 1 else (if x0 = 26 then 1 else 0)))))
abbrev rm_X4_isSize : Room := { frames := 0, cells := 0, slots := 0, locals := 0 }
theorem nz_X4_isSize {x0 : Int64} : NZ (f_X4_isSize x0) := (nzI nz1 (nzI nz1 (nzI nz1 (nzI nz1 (nzI nz1 nz0)))))
set_option maxHeartbeats 4000000 in
set_option maxRecDepth 100000 in
theorem c_X4_isSize (l : Launch) (D : va_G) (a : Nat → Nat) (cA : Nat → ClassId) (σ0 : PS) (x0 : Int64) : CI l yX4_isSize cX4_isSize 2 .boolean rm_X4_isSize D (pdT cA) [.long x0] (pdW a cA σ0) (pdW a cA σ0) (f_X4_isSize x0) := by
  refine en_i (by decide +kernel) (Nat.le_of_ble_eq_true rfl) nz_X4_isSize ?_
  intro p e s m args below meth c A ls Q K hw hl ret
  have hl : lv_has ls 2 [(0, .long x0)] := hl
  refine lv_lload_n K.1 K.2.1 dX4_isSize_0 rfl (lv_at hl 0 rfl) ?_
  refine lv_lconst (v := 1) K.1 K.2.1 dX4_isSize_1 (by decide) ?_
  refine lc_eq (tgt := 38) K dX4_isSize_2 dX4_isSize_3 (by decide) (fun c2 => ?_) (fun c2 => ?_)
  · refine lv_iconst (v := 1) K.1 K.2.1 dX4_isSize_38 (by decide) ?_
    refine lv_goto (tgt := 43) K.1 K.2.1 dX4_isSize_39 (by decide) ?_
    exact ret rfl (by exact (Eq.trans (if_pos c2) rfl)) hw dX4_isSize_43
  · refine lv_lload_n K.1 K.2.1 dX4_isSize_6 rfl (lv_at hl 0 rfl) ?_
    refine lv_ldc2 K.1 K.2.1 K.2.2.2.1 (K.2.2.1 _ kc_X4_7) dX4_isSize_7 ?_
    refine lc_eq (tgt := 38) K dX4_isSize_10 dX4_isSize_11 (by decide) (fun c10 => ?_) (fun c10 => ?_)
    · refine lv_iconst (v := 1) K.1 K.2.1 dX4_isSize_38 (by decide) ?_
      refine lv_goto (tgt := 43) K.1 K.2.1 dX4_isSize_39 (by decide) ?_
      exact ret rfl (by exact (Eq.trans (if_neg c2) (Eq.trans (if_pos c10) rfl))) hw dX4_isSize_43
    · refine lv_lload_n K.1 K.2.1 dX4_isSize_14 rfl (lv_at hl 0 rfl) ?_
      refine lv_ldc2 K.1 K.2.1 K.2.2.2.1 (K.2.2.1 _ kc_X4_9) dX4_isSize_15 ?_
      refine lc_eq (tgt := 38) K dX4_isSize_18 dX4_isSize_19 (by decide) (fun c18 => ?_) (fun c18 => ?_)
      · refine lv_iconst (v := 1) K.1 K.2.1 dX4_isSize_38 (by decide) ?_
        refine lv_goto (tgt := 43) K.1 K.2.1 dX4_isSize_39 (by decide) ?_
        exact ret rfl (by exact (Eq.trans (if_neg c2) (Eq.trans (if_neg c10) (Eq.trans (if_pos c18) rfl)))) hw dX4_isSize_43
      · refine lv_lload_n K.1 K.2.1 dX4_isSize_22 rfl (lv_at hl 0 rfl) ?_
        refine lv_ldc2 K.1 K.2.1 K.2.2.2.1 (K.2.2.1 _ kc_X4_11) dX4_isSize_23 ?_
        refine lc_eq (tgt := 38) K dX4_isSize_26 dX4_isSize_27 (by decide) (fun c26 => ?_) (fun c26 => ?_)
        · refine lv_iconst (v := 1) K.1 K.2.1 dX4_isSize_38 (by decide) ?_
          refine lv_goto (tgt := 43) K.1 K.2.1 dX4_isSize_39 (by decide) ?_
          exact ret rfl (by exact (Eq.trans (if_neg c2) (Eq.trans (if_neg c10) (Eq.trans (if_neg c18) (Eq.trans (if_pos c26) rfl))))) hw dX4_isSize_43
        · refine lv_lload_n K.1 K.2.1 dX4_isSize_30 rfl (lv_at hl 0 rfl) ?_
          refine lv_ldc2 K.1 K.2.1 K.2.2.2.1 (K.2.2.1 _ kc_X4_13) dX4_isSize_31 ?_
          refine lc_ne (tgt := 42) K dX4_isSize_34 dX4_isSize_35 (by decide) (fun c34 => ?_) (fun c34 => ?_)
          · refine lv_iconst (v := 0) K.1 K.2.1 dX4_isSize_42 (by decide) ?_
            exact ret rfl (by exact (Eq.trans (if_neg c2) (Eq.trans (if_neg c10) (Eq.trans (if_neg c18) (Eq.trans (if_neg c26) (Eq.trans (if_neg c34) rfl)))))) hw dX4_isSize_43
          · refine lv_iconst (v := 1) K.1 K.2.1 dX4_isSize_38 (by decide) ?_
            refine lv_goto (tgt := 43) K.1 K.2.1 dX4_isSize_39 (by decide) ?_
            exact ret rfl (by exact (Eq.trans (if_neg c2) (Eq.trans (if_neg c10) (Eq.trans (if_neg c18) (Eq.trans (if_neg c26) (Eq.trans (if_pos c34) rfl)))))) hw dX4_isSize_43
def f_X4_shortSide (σ0 : PS) : Int32 := (if (σ0.1 13) = 1 then 52200 else (if (σ0.1 13) = 6 then 79200 else (if (σ0.1 13) = 26 then 59528 else 61200)))
abbrev rm_X4_shortSide : Room := { frames := 0, cells := 0, slots := 0, locals := 0 }
set_option maxHeartbeats 4000000 in
set_option maxRecDepth 100000 in
theorem c_X4_shortSide (l : Launch) (D : va_G) (a : Nat → Nat) (cA : Nat → ClassId) (σ0 : PS) : CI l yX4_shortSide cX4_shortSide 1 .int rm_X4_shortSide D (pdT cA) [.ref (a 2)] (pdW a cA σ0) (pdW a cA σ0) (f_X4_shortSide σ0) := by
  refine en_i (by decide +kernel) (Nat.le_of_ble_eq_true rfl) rfl ?_
  intro p e s m args below meth c A ls Q K hw hl ret
  have hl : lv_has ls 1 [(0, .ref (a 2))] := hl
  refine lv_aload_n K.1 K.2.1 dX4_shortSide_0 rfl (lv_at hl 0 rfl) ?_
  refine gD_2_0 K hw kf_X4_15 dX4_shortSide_1 ?_
  refine sw_l K dX4_shortSide_4 (k := 1) (tgt := 40) (by decide) (by decide) (fun c4_1 => ?_) (fun c4_1 => ?_)
  · refine lv_ldc K.1 K.2.1 K.2.2.2.1 (K.2.2.1 _ kc_X4_37) dX4_shortSide_40 ?_
    exact ret rfl (by exact (Eq.trans (if_pos c4_1) rfl)) hw dX4_shortSide_42
  · refine sw_l K dX4_shortSide_4 (k := 6) (tgt := 43) (by decide) (by decide) (fun c4_6 => ?_) (fun c4_6 => ?_)
    · refine lv_ldc K.1 K.2.1 K.2.2.2.1 (K.2.2.1 _ kc_X4_38) dX4_shortSide_43 ?_
      exact ret rfl (by exact (Eq.trans (if_neg c4_1) (Eq.trans (if_pos c4_6) rfl))) hw dX4_shortSide_45
    · refine sw_l K dX4_shortSide_4 (k := 26) (tgt := 46) (by decide) (by decide) (fun c4_26 => ?_) (fun c4_26 => ?_)
      · refine lv_ldc K.1 K.2.1 K.2.2.2.1 (K.2.2.1 _ kc_X4_39) dX4_shortSide_46 ?_
        exact ret rfl (by exact (Eq.trans (if_neg c4_1) (Eq.trans (if_neg c4_6) (Eq.trans (if_pos c4_26) rfl)))) hw dX4_shortSide_48
      · refine lv_lookup (tgt := 49) (off := 45) K.1 K.2.1 dX4_shortSide_4 (by decide) (by show Op.lookupswitch.offset [(1, 36), (6, 39), (26, 42)] 45 _ = 45; rw [lv_osw c4_1 (a := 1) rfl, lv_osw c4_6 (a := 6) rfl, lv_osw c4_26 (a := 26) rfl]; rfl) (by decide) ?_
        refine lv_ldc K.1 K.2.1 K.2.2.2.1 (K.2.2.1 _ kc_X4_40) dX4_shortSide_49 ?_
        exact ret rfl (by exact (Eq.trans (if_neg c4_1) (Eq.trans (if_neg c4_6) (Eq.trans (if_neg c4_26) rfl)))) hw dX4_shortSide_51
def f_X4_longSide (σ0 : PS) : Int32 := (if (σ0.1 13) = 1 then 75600 else (if (σ0.1 13) = 3 then 100800 else (if (σ0.1 13) = 6 then 122400 else (if (σ0.1 13) = 26 then 84189 else 79200))))
abbrev rm_X4_longSide : Room := { frames := 0, cells := 0, slots := 0, locals := 0 }
set_option maxHeartbeats 4000000 in
set_option maxRecDepth 100000 in
theorem c_X4_longSide (l : Launch) (D : va_G) (a : Nat → Nat) (cA : Nat → ClassId) (σ0 : PS) : CI l yX4_longSide cX4_longSide 1 .int rm_X4_longSide D (pdT cA) [.ref (a 2)] (pdW a cA σ0) (pdW a cA σ0) (f_X4_longSide σ0) := by
  refine en_i (by decide +kernel) (Nat.le_of_ble_eq_true rfl) rfl ?_
  intro p e s m args below meth c A ls Q K hw hl ret
  have hl : lv_has ls 1 [(0, .ref (a 2))] := hl
  refine lv_aload_n K.1 K.2.1 dX4_longSide_0 rfl (lv_at hl 0 rfl) ?_
  refine gD_2_0 K hw kf_X4_15 dX4_longSide_1 ?_
  refine sw_l K dX4_longSide_4 (k := 1) (tgt := 48) (by decide) (by decide) (fun c4_1 => ?_) (fun c4_1 => ?_)
  · refine lv_ldc K.1 K.2.1 K.2.2.2.1 (K.2.2.1 _ kc_X4_41) dX4_longSide_48 ?_
    exact ret rfl (by exact (Eq.trans (if_pos c4_1) rfl)) hw dX4_longSide_50
  · refine sw_l K dX4_longSide_4 (k := 3) (tgt := 51) (by decide) (by decide) (fun c4_3 => ?_) (fun c4_3 => ?_)
    · refine lv_ldc K.1 K.2.1 K.2.2.2.1 (K.2.2.1 _ kc_X4_42) dX4_longSide_51 ?_
      exact ret rfl (by exact (Eq.trans (if_neg c4_1) (Eq.trans (if_pos c4_3) rfl))) hw dX4_longSide_53
    · refine sw_l K dX4_longSide_4 (k := 6) (tgt := 54) (by decide) (by decide) (fun c4_6 => ?_) (fun c4_6 => ?_)
      · refine lv_ldc K.1 K.2.1 K.2.2.2.1 (K.2.2.1 _ kc_X4_43) dX4_longSide_54 ?_
        exact ret rfl (by exact (Eq.trans (if_neg c4_1) (Eq.trans (if_neg c4_3) (Eq.trans (if_pos c4_6) rfl)))) hw dX4_longSide_56
      · refine sw_l K dX4_longSide_4 (k := 26) (tgt := 57) (by decide) (by decide) (fun c4_26 => ?_) (fun c4_26 => ?_)
        · refine lv_ldc K.1 K.2.1 K.2.2.2.1 (K.2.2.1 _ kc_X4_44) dX4_longSide_57 ?_
          exact ret rfl (by exact (Eq.trans (if_neg c4_1) (Eq.trans (if_neg c4_3) (Eq.trans (if_neg c4_6) (Eq.trans (if_pos c4_26) rfl))))) hw dX4_longSide_59
        · refine lv_lookup (tgt := 60) (off := 56) K.1 K.2.1 dX4_longSide_4 (by decide) (by show Op.lookupswitch.offset [(1, 44), (3, 47), (6, 50), (26, 53)] 56 _ = 56; rw [lv_osw c4_1 (a := 1) rfl, lv_osw c4_3 (a := 3) rfl, lv_osw c4_6 (a := 6) rfl, lv_osw c4_26 (a := 26) rfl]; rfl) (by decide) ?_
          refine lv_ldc K.1 K.2.1 K.2.2.2.1 (K.2.2.1 _ kc_X4_38) dX4_longSide_60 ?_
          exact ret rfl (by exact (Eq.trans (if_neg c4_1) (Eq.trans (if_neg c4_3) (Eq.trans (if_neg c4_6) (Eq.trans (if_neg c4_26) rfl))))) hw dX4_longSide_62
def g_X4_choose_56 (σ : PS) (y3 : Int32) (k0 : Int32) : PS := (if y3 = 0 then (upS (upS σ 16 k0) 17 (f_X4_longSide (upS σ 16 k0))) else (upS (upS σ 16 k0) 17 (f_X4_shortSide (upS σ 16 k0))))
def g_X4_choose_31 (σ : PS) (k0 : Int32) : PS := (if k0 = 0 then (g_X4_choose_56 σ k0 ((f_X4_shortSide σ) - 3600)) else (g_X4_choose_56 σ k0 ((f_X4_longSide σ) - 2880)))
def g_X4_choose_26 (σ : PS) : PS := (g_X4_choose_31 σ 1)
def f_X4_choose (σ0 : PS) (x1 : Int32) (x2 : Int32) : PS := (if x2 = 1 then (g_X4_choose_26 (upS (upS σ0 13 x1) 14 x2)) else (if x2 = 3 then (g_X4_choose_26 (upS (upS σ0 13 x1) 14 x2)) else (g_X4_choose_31 (upS (upS σ0 13 x1) 14 x2) 0)))
theorem bx_g_X4_choose_56 {σ : PS} {y3 : Int32} {k0 : Int32} (hI : Bx σ) : Bx (g_X4_choose_56 σ y3 k0) := (bxI (fun c61 => (bxS_17 (bxS_16 hI))) (fun c61 => (bxS_17 (bxS_16 hI))))
theorem bx_g_X4_choose_31 {σ : PS} {k0 : Int32} (hI : Bx σ) : Bx (g_X4_choose_31 σ k0) := (bxI (fun c34 => (bx_g_X4_choose_56 hI)) (fun c34 => (bx_g_X4_choose_56 hI)))
theorem bx_g_X4_choose_26 {σ : PS} (hI : Bx σ) : Bx (g_X4_choose_26 σ) := (bx_g_X4_choose_31 hI)
theorem bx_X4_choose {σ0 : PS} {x1 : Int32} {x2 : Int32} (hI : Bx σ0) : Bx (f_X4_choose σ0 x1 x2) := (bxI (fun c15 => (bx_g_X4_choose_26 (bxS_14 (bxS_13 hI)))) (fun c15 => (bxI (fun c23 => (bx_g_X4_choose_26 (bxS_14 (bxS_13 hI)))) (fun c23 => (bx_g_X4_choose_31 (bxS_14 (bxS_13 hI)))))))
abbrev rm_X4_choose : Room := { frames := 1, cells := 0, slots := 0, locals := 20 }
set_option maxHeartbeats 4000000 in
set_option maxRecDepth 100000 in
theorem c_X4_choose (l : Launch) (D : va_G) (a : Nat → Nat) (cA : Nat → ClassId) (σ0 : PS) (x1 : Int32) (x2 : Int32) : CV l yX4_choose cX4_choose 4 rm_X4_choose D (pdT cA) [.ref (a 2), .int x1, .int x2] (pdW a cA σ0) (pdW a cA (f_X4_choose σ0 x1 x2)) := by
  refine en_v (by decide +kernel) (Nat.le_of_ble_eq_true rfl) ?_
  intro p e s m args below meth c A ls Q K hw hl ret
  have hl : lv_has ls 4 [(0, .ref (a 2)), (1, .int x1), (2, .int x2)] := hl
  have J56 : ∀ (σ : PS) (y3 : Int32) (k0 : Int32) (H : Heap) (locs : List Loc) (ls : Array Slot), WD D A s.heap (pdW a cA σ) H locs → lv_has ls 4 [(0, .ref (a 2)), (3, .int y3)] → f_X4_choose σ0 x1 x2 = g_X4_choose_56 σ y3 k0 → W p l e rm_X4_choose s m args below meth c H locs 0 0 Q (F0 m 56 ls [.int k0, .ref (a 2)]) := by
    intro σ y3 k0 H locs ls hw hl e0
    refine pD_2_3 K hw kf_X4_31 dX4_choose_56 (fun H locs hw => ?_)
    refine lv_aload_n K.1 K.2.1 dX4_choose_59 rfl (lv_at hl 0 rfl) ?_
    refine lv_iload_n K.1 K.2.1 dX4_choose_60 rfl (lv_at hl 1 rfl) ?_
    refine lv_if_eq (tgt := 71) K.1 K.2.1 dX4_choose_61 (by decide) (fun c61 => ?_) (fun c61 => ?_)
    · refine lv_aload_n K.1 K.2.1 dX4_choose_71 rfl (lv_at hl 0 rfl) ?_
      refine caI K hw (c_X4_longSide l D a cA _) hl.1 (tt_V km_X4_24 kI_X4_longSide ks_X4_longSide ki_X4 kC_X4_longSide) 2 (ci := 4) rfl rfl rfl (na := 0) rfl (by decide +kernel) ⟨rfl, rfl⟩ (by decide) ⟨Nat.zero_le _, Nat.zero_le _⟩ rfl (Nat.le_of_ble_eq_true rfl) dX4_choose_72 (fun H locs hw => ?_)
      refine pD_2_4 K hw kf_X4_34 dX4_choose_75 (fun H locs hw => ?_)
      exact ret (congrArg (pdW a cA) (by exact (Eq.trans e0 (Eq.trans (if_pos c61) rfl)))) hw dX4_choose_78
    · refine lv_aload_n K.1 K.2.1 dX4_choose_64 rfl (lv_at hl 0 rfl) ?_
      refine caI K hw (c_X4_shortSide l D a cA _) hl.1 (tt_V km_X4_28 kI_X4_shortSide ks_X4_shortSide ki_X4 kC_X4_shortSide) 2 (ci := 4) rfl rfl rfl (na := 0) rfl (by decide +kernel) ⟨rfl, rfl⟩ (by decide) ⟨Nat.zero_le _, Nat.zero_le _⟩ rfl (Nat.le_of_ble_eq_true rfl) dX4_choose_65 (fun H locs hw => ?_)
      refine lv_goto (tgt := 75) K.1 K.2.1 dX4_choose_68 (by decide) ?_
      refine pD_2_4 K hw kf_X4_34 dX4_choose_75 (fun H locs hw => ?_)
      exact ret (congrArg (pdW a cA) (by exact (Eq.trans e0 (Eq.trans (if_neg c61) rfl)))) hw dX4_choose_78
  have J31 : ∀ (σ : PS) (k0 : Int32) (H : Heap) (locs : List Loc) (ls : Array Slot), WD D A s.heap (pdW a cA σ) H locs → lv_has ls 4 [(0, .ref (a 2))] → f_X4_choose σ0 x1 x2 = g_X4_choose_31 σ k0 → W p l e rm_X4_choose s m args below meth c H locs 0 0 Q (F0 m 31 ls [.int k0]) := by
    intro σ k0 H locs ls hw hl e0
    refine lv_istore_n (lv' := [(3, .int k0), (0, .ref (a 2))]) K.1 K.2.1 dX4_choose_31 rfl hl (by decide) rfl (fun ls hl => ?_)
    refine lv_aload_n K.1 K.2.1 dX4_choose_32 rfl (lv_at hl 1 rfl) ?_
    refine lv_iload_n K.1 K.2.1 dX4_choose_33 rfl (lv_at hl 0 rfl) ?_
    refine lv_if_eq (tgt := 48) K.1 K.2.1 dX4_choose_34 (by decide) (fun c34 => ?_) (fun c34 => ?_)
    · refine lv_aload_n K.1 K.2.1 dX4_choose_48 rfl (lv_at hl 1 rfl) ?_
      refine caI K hw (c_X4_shortSide l D a cA _) hl.1 (tt_V km_X4_28 kI_X4_shortSide ks_X4_shortSide ki_X4 kC_X4_shortSide) 2 (ci := 4) rfl rfl rfl (na := 0) rfl (by decide +kernel) ⟨rfl, rfl⟩ (by decide) ⟨Nat.zero_le _, Nat.zero_le _⟩ rfl (Nat.le_of_ble_eq_true rfl) dX4_choose_49 (fun H locs hw => ?_)
      refine lv_sipush (v := 3600) K.1 K.2.1 dX4_choose_52 (by decide) ?_
      refine lv_isub K.1 K.2.1 dX4_choose_55 ?_
      exact J56 _ _ _ _ _ _ hw (lv_sub hl [1, 0] rfl) (by exact (Eq.trans e0 (Eq.trans (if_pos c34) rfl)))
    · refine lv_aload_n K.1 K.2.1 dX4_choose_37 rfl (lv_at hl 1 rfl) ?_
      refine caI K hw (c_X4_longSide l D a cA _) hl.1 (tt_V km_X4_24 kI_X4_longSide ks_X4_longSide ki_X4 kC_X4_longSide) 2 (ci := 4) rfl rfl rfl (na := 0) rfl (by decide +kernel) ⟨rfl, rfl⟩ (by decide) ⟨Nat.zero_le _, Nat.zero_le _⟩ rfl (Nat.le_of_ble_eq_true rfl) dX4_choose_38 (fun H locs hw => ?_)
      refine lv_sipush (v := 2880) K.1 K.2.1 dX4_choose_41 (by decide) ?_
      refine lv_isub K.1 K.2.1 dX4_choose_44 ?_
      refine lv_goto (tgt := 56) K.1 K.2.1 dX4_choose_45 (by decide) ?_
      exact J56 _ _ _ _ _ _ hw (lv_sub hl [1, 0] rfl) (by exact (Eq.trans e0 (Eq.trans (if_neg c34) rfl)))
  have J26 : ∀ (σ : PS) (H : Heap) (locs : List Loc) (ls : Array Slot), WD D A s.heap (pdW a cA σ) H locs → lv_has ls 4 [(0, .ref (a 2))] → f_X4_choose σ0 x1 x2 = g_X4_choose_26 σ → W p l e rm_X4_choose s m args below meth c H locs 0 0 Q (F0 m 26 ls []) := by
    intro σ H locs ls hw hl e0
    refine lv_iconst (v := 1) K.1 K.2.1 dX4_choose_26 (by decide) ?_
    refine lv_goto (tgt := 31) K.1 K.2.1 dX4_choose_27 (by decide) ?_
    exact J31 _ _ _ _ _ hw (lv_sub hl [0] rfl) (by exact (Eq.trans e0 rfl))
  refine lv_aload_n K.1 K.2.1 dX4_choose_0 rfl (lv_at hl 0 rfl) ?_
  refine lv_iload_n K.1 K.2.1 dX4_choose_1 rfl (lv_at hl 1 rfl) ?_
  refine pD_2_0 K hw kf_X4_15 dX4_choose_2 (fun H locs hw => ?_)
  refine lv_aload_n K.1 K.2.1 dX4_choose_5 rfl (lv_at hl 0 rfl) ?_
  refine lv_iload_n K.1 K.2.1 dX4_choose_6 rfl (lv_at hl 2 rfl) ?_
  refine pD_2_1 K hw kf_X4_21 dX4_choose_7 (fun H locs hw => ?_)
  refine lv_aload_n K.1 K.2.1 dX4_choose_10 rfl (lv_at hl 0 rfl) ?_
  refine gD_2_1 K hw kf_X4_21 dX4_choose_11 ?_
  refine lv_iconst (v := 1) K.1 K.2.1 dX4_choose_14 (by decide) ?_
  refine lv_icmp_eq (tgt := 26) K.1 K.2.1 dX4_choose_15 (by decide) (fun c15 => ?_) (fun c15 => ?_)
  · exact J26 _ _ _ _ hw (lv_sub hl [0] rfl) (by exact (Eq.trans (if_pos c15) rfl))
  · refine lv_aload_n K.1 K.2.1 dX4_choose_18 rfl (lv_at hl 0 rfl) ?_
    refine gD_2_1 K hw kf_X4_21 dX4_choose_19 ?_
    refine lv_iconst (v := 3) K.1 K.2.1 dX4_choose_22 (by decide) ?_
    refine lv_icmp_ne (tgt := 30) K.1 K.2.1 dX4_choose_23 (by decide) (fun c23 => ?_) (fun c23 => ?_)
    · refine lv_iconst (v := 0) K.1 K.2.1 dX4_choose_30 (by decide) ?_
      exact J31 _ _ _ _ _ hw (lv_sub hl [0] rfl) (by exact (Eq.trans (if_neg c15) (Eq.trans (if_neg c23) rfl)))
    · exact J26 _ _ _ _ hw (lv_sub hl [0] rfl) (by exact (Eq.trans (if_neg c15) (Eq.trans (if_pos c23) rfl)))
def f_X1_home (σ0 : PS) : Int32 := ((σ0.1 18) + (((σ0.1 23) * 3) / 4))
abbrev rm_X1_home : Room := { frames := 0, cells := 0, slots := 0, locals := 0 }
set_option maxHeartbeats 4000000 in
set_option maxRecDepth 100000 in
theorem c_X1_home (l : Launch) (D : va_G) (a : Nat → Nat) (cA : Nat → ClassId) (σ0 : PS) : CI l yX1_home cX1_home 1 .int rm_X1_home D (pdT cA) [.ref (a 3)] (pdW a cA σ0) (pdW a cA σ0) (f_X1_home σ0) := by
  refine en_i (by decide +kernel) (Nat.le_of_ble_eq_true rfl) rfl ?_
  intro p e s m args below meth c A ls Q K hw hl ret
  have hl : lv_has ls 1 [(0, .ref (a 3))] := hl
  refine lv_aload_n K.1 K.2.1 dX1_home_0 rfl (lv_at hl 0 rfl) ?_
  refine gD_3_0 K hw kf_X1_16 dX1_home_1 ?_
  refine lv_aload_n K.1 K.2.1 dX1_home_4 rfl (lv_at hl 0 rfl) ?_
  refine gD_3_5 K hw kf_X1_20 dX1_home_5 ?_
  refine lv_iconst (v := 3) K.1 K.2.1 dX1_home_8 (by decide) ?_
  refine lv_imul K.1 K.2.1 dX1_home_9 ?_
  refine lv_iconst (v := 4) K.1 K.2.1 dX1_home_10 (by decide) ?_
  refine lv_idiv K.1 K.2.1 dX1_home_11 (by decide) ?_
  refine lv_iadd K.1 K.2.1 dX1_home_12 ?_
  exact ret rfl (by exact rfl) hw dX1_home_13
def f_X6_isOverrun (σ0 : PS) : Int32 := (if (σ0.1 32) ≤ (σ0.1 31) then 0 else 1)
abbrev rm_X6_isOverrun : Room := { frames := 0, cells := 0, slots := 0, locals := 0 }
theorem nz_X6_isOverrun {σ0 : PS} : NZ (f_X6_isOverrun σ0) := (nzI nz0 nz1)
set_option maxHeartbeats 4000000 in
set_option maxRecDepth 100000 in
theorem c_X6_isOverrun (l : Launch) (D : va_G) (a : Nat → Nat) (cA : Nat → ClassId) (σ0 : PS) : CI l yX6_isOverrun cX6_isOverrun 1 .boolean rm_X6_isOverrun D (pdT cA) [.ref (a 4)] (pdW a cA σ0) (pdW a cA σ0) (f_X6_isOverrun σ0) := by
  refine en_i (by decide +kernel) (Nat.le_of_ble_eq_true rfl) nz_X6_isOverrun ?_
  intro p e s m args below meth c A ls Q K hw hl ret
  have hl : lv_has ls 1 [(0, .ref (a 4))] := hl
  refine lv_aload_n K.1 K.2.1 dX6_isOverrun_0 rfl (lv_at hl 0 rfl) ?_
  refine gD_4_2 K hw kf_X6_13 dX6_isOverrun_1 ?_
  refine lv_aload_n K.1 K.2.1 dX6_isOverrun_4 rfl (lv_at hl 0 rfl) ?_
  refine gD_4_1 K hw kf_X6_17 dX6_isOverrun_5 ?_
  refine lv_icmp_le (tgt := 15) K.1 K.2.1 dX6_isOverrun_8 (by decide) (fun c8 => ?_) (fun c8 => ?_)
  · refine lv_iconst (v := 0) K.1 K.2.1 dX6_isOverrun_15 (by decide) ?_
    exact ret rfl (by exact (Eq.trans (if_pos c8) rfl)) hw dX6_isOverrun_16
  · refine lv_iconst (v := 1) K.1 K.2.1 dX6_isOverrun_11 (by decide) ?_
    refine lv_goto (tgt := 16) K.1 K.2.1 dX6_isOverrun_12 (by decide) ?_
    exact ret rfl (by exact (Eq.trans (if_neg c8) rfl)) hw dX6_isOverrun_16
def f_X6_isDue (σ0 : PS) : Int32 := (if (σ0.1 33) = 0 then (if (σ0.1 31) ≤ 0 then 0 else 1) else 1)
abbrev rm_X6_isDue : Room := { frames := 0, cells := 0, slots := 0, locals := 0 }
theorem nz_X6_isDue {σ0 : PS} : NZ (f_X6_isDue σ0) := (nzI (nzI nz0 nz1) nz1)
set_option maxHeartbeats 4000000 in
set_option maxRecDepth 100000 in
theorem c_X6_isDue (l : Launch) (D : va_G) (a : Nat → Nat) (cA : Nat → ClassId) (σ0 : PS) : CI l yX6_isDue cX6_isDue 1 .boolean rm_X6_isDue D (pdT cA) [.ref (a 4)] (pdW a cA σ0) (pdW a cA σ0) (f_X6_isDue σ0) := by
  refine en_i (by decide +kernel) (Nat.le_of_ble_eq_true rfl) nz_X6_isDue ?_
  intro p e s m args below meth c A ls Q K hw hl ret
  have hl : lv_has ls 1 [(0, .ref (a 4))] := hl
  refine lv_aload_n K.1 K.2.1 dX6_isDue_0 rfl (lv_at hl 0 rfl) ?_
  refine gD_4_3 K hw kf_X6_20 dX6_isDue_1 ?_
  refine lv_if_ne (tgt := 14) K.1 K.2.1 dX6_isDue_4 (by decide) (fun c4 => ?_) (fun c4 => ?_)
  · refine lv_iconst (v := 1) K.1 K.2.1 dX6_isDue_14 (by decide) ?_
    refine lv_goto (tgt := 19) K.1 K.2.1 dX6_isDue_15 (by decide) ?_
    exact ret rfl (by exact (Eq.trans (if_neg c4) rfl)) hw dX6_isDue_19
  · refine lv_aload_n K.1 K.2.1 dX6_isDue_7 rfl (lv_at hl 0 rfl) ?_
    refine gD_4_1 K hw kf_X6_17 dX6_isDue_8 ?_
    refine lv_if_le (tgt := 18) K.1 K.2.1 dX6_isDue_11 (by decide) (fun c11 => ?_) (fun c11 => ?_)
    · refine lv_iconst (v := 0) K.1 K.2.1 dX6_isDue_18 (by decide) ?_
      exact ret rfl (by exact (Eq.trans (if_pos c4) (Eq.trans (if_pos c11) rfl))) hw dX6_isDue_19
    · refine lv_iconst (v := 1) K.1 K.2.1 dX6_isDue_14 (by decide) ?_
      refine lv_goto (tgt := 19) K.1 K.2.1 dX6_isDue_15 (by decide) ?_
      exact ret rfl (by exact (Eq.trans (if_pos c4) (Eq.trans (if_neg c11) rfl))) hw dX6_isDue_19
def f_X6_clear (σ0 : PS) : PS := (upS (upS (upS σ0 31 0) 32 0) 33 0)
theorem bx_X6_clear {σ0 : PS} (hI : Bx σ0) : Bx (f_X6_clear σ0) := (bxQ_33 (bxS_32 (bxQ_31 hI (by decide) (by decide))) (by decide) (by decide))
abbrev rm_X6_clear : Room := { frames := 0, cells := 0, slots := 0, locals := 0 }
set_option maxHeartbeats 4000000 in
set_option maxRecDepth 100000 in
theorem c_X6_clear (l : Launch) (D : va_G) (a : Nat → Nat) (cA : Nat → ClassId) (σ0 : PS) : CV l yX6_clear cX6_clear 1 rm_X6_clear D (pdT cA) [.ref (a 4)] (pdW a cA σ0) (pdW a cA (f_X6_clear σ0)) := by
  refine en_v (by decide +kernel) (Nat.le_of_ble_eq_true rfl) ?_
  intro p e s m args below meth c A ls Q K hw hl ret
  have hl : lv_has ls 1 [(0, .ref (a 4))] := hl
  refine lv_aload_n K.1 K.2.1 dX6_clear_0 rfl (lv_at hl 0 rfl) ?_
  refine lv_iconst (v := 0) K.1 K.2.1 dX6_clear_1 (by decide) ?_
  refine pD_4_1 K hw kf_X6_17 dX6_clear_2 (fun H locs hw => ?_)
  refine lv_aload_n K.1 K.2.1 dX6_clear_5 rfl (lv_at hl 0 rfl) ?_
  refine lv_iconst (v := 0) K.1 K.2.1 dX6_clear_6 (by decide) ?_
  refine pD_4_2 K hw kf_X6_13 dX6_clear_7 (fun H locs hw => ?_)
  refine lv_aload_n K.1 K.2.1 dX6_clear_10 rfl (lv_at hl 0 rfl) ?_
  refine lv_iconst (v := 0) K.1 K.2.1 dX6_clear_11 (by decide) ?_
  refine pD_4_3 K hw rfl rfl kf_X6_20 dX6_clear_12 (fun H locs hw => ?_)
  exact ret (congrArg (pdW a cA) (by exact rfl)) hw dX6_clear_15
def f_X0_has (σ0 : PS) (x1 : Int32) : Int32 := (if x1 < 0 then 0 else (if (σ0.1 34) ≤ x1 then 0 else (if x1 < ((σ0.1 34) - 40) then 0 else 1)))
abbrev rm_X0_has : Room := { frames := 0, cells := 0, slots := 0, locals := 0 }
theorem nz_X0_has {σ0 : PS} {x1 : Int32} : NZ (f_X0_has σ0 x1) := (nzI nz0 (nzI nz0 (nzI nz0 nz1)))
set_option maxHeartbeats 4000000 in
set_option maxRecDepth 100000 in
theorem c_X0_has (l : Launch) (D : va_G) (a : Nat → Nat) (cA : Nat → ClassId) (σ0 : PS) (x1 : Int32) : CI l yX0_has cX0_has 2 .boolean rm_X0_has D (pdT cA) [.ref (a 5), .int x1] (pdW a cA σ0) (pdW a cA σ0) (f_X0_has σ0 x1) := by
  refine en_i (by decide +kernel) (Nat.le_of_ble_eq_true rfl) nz_X0_has ?_
  intro p e s m args below meth c A ls Q K hw hl ret
  have hl : lv_has ls 2 [(0, .ref (a 5)), (1, .int x1)] := hl
  refine lv_iload_n K.1 K.2.1 dX0_has_0 rfl (lv_at hl 1 rfl) ?_
  refine lv_if_lt (tgt := 27) K.1 K.2.1 dX0_has_1 (by decide) (fun c1 => ?_) (fun c1 => ?_)
  · refine lv_iconst (v := 0) K.1 K.2.1 dX0_has_27 (by decide) ?_
    exact ret rfl (by exact (Eq.trans (if_pos c1) rfl)) hw dX0_has_28
  · refine lv_iload_n K.1 K.2.1 dX0_has_4 rfl (lv_at hl 1 rfl) ?_
    refine lv_aload_n K.1 K.2.1 dX0_has_5 rfl (lv_at hl 0 rfl) ?_
    refine gD_5_1 K hw kf_X0_13 dX0_has_6 ?_
    refine lv_icmp_ge (tgt := 27) K.1 K.2.1 dX0_has_9 (by decide) (fun c9 => ?_) (fun c9 => ?_)
    · refine lv_iconst (v := 0) K.1 K.2.1 dX0_has_27 (by decide) ?_
      exact ret rfl (by exact (Eq.trans (if_neg c1) (Eq.trans (if_pos c9) rfl))) hw dX0_has_28
    · refine lv_iload_n K.1 K.2.1 dX0_has_12 rfl (lv_at hl 1 rfl) ?_
      refine lv_aload_n K.1 K.2.1 dX0_has_13 rfl (lv_at hl 0 rfl) ?_
      refine gD_5_1 K hw kf_X0_13 dX0_has_14 ?_
      refine lv_bipush (v := 40) K.1 K.2.1 dX0_has_17 (by decide) ?_
      refine lv_isub K.1 K.2.1 dX0_has_19 ?_
      refine lv_icmp_lt (tgt := 27) K.1 K.2.1 dX0_has_20 (by decide) (fun c20 => ?_) (fun c20 => ?_)
      · refine lv_iconst (v := 0) K.1 K.2.1 dX0_has_27 (by decide) ?_
        exact ret rfl (by exact (Eq.trans (if_neg c1) (Eq.trans (if_neg c9) (Eq.trans (if_pos c20) rfl)))) hw dX0_has_28
      · refine lv_iconst (v := 1) K.1 K.2.1 dX0_has_23 (by decide) ?_
        refine lv_goto (tgt := 28) K.1 K.2.1 dX0_has_24 (by decide) ?_
        exact ret rfl (by exact (Eq.trans (if_neg c1) (Eq.trans (if_neg c9) (Eq.trans (if_neg c20) rfl)))) hw dX0_has_28
def f_X5_isUnderWay (σ0 : PS) : Int32 := (if (σ0.1 6) = 0 then (if (σ0.1 5) ≤ 0 then 0 else 1) else 1)
abbrev rm_X5_isUnderWay : Room := { frames := 0, cells := 0, slots := 0, locals := 0 }
theorem nz_X5_isUnderWay {σ0 : PS} : NZ (f_X5_isUnderWay σ0) := (nzI (nzI nz0 nz1) nz1)
set_option maxHeartbeats 4000000 in
set_option maxRecDepth 100000 in
theorem c_X5_isUnderWay (l : Launch) (D : va_G) (a : Nat → Nat) (cA : Nat → ClassId) (σ0 : PS) : CI l yX5_isUnderWay cX5_isUnderWay 1 .boolean rm_X5_isUnderWay D (pdT cA) [.ref (a 1)] (pdW a cA σ0) (pdW a cA σ0) (f_X5_isUnderWay σ0) := by
  refine en_i (by decide +kernel) (Nat.le_of_ble_eq_true rfl) nz_X5_isUnderWay ?_
  intro p e s m args below meth c A ls Q K hw hl ret
  have hl : lv_has ls 1 [(0, .ref (a 1))] := hl
  refine lv_aload_n K.1 K.2.1 dX5_isUnderWay_0 rfl (lv_at hl 0 rfl) ?_
  refine gD_1_6 K hw kf_X5_9 dX5_isUnderWay_1 ?_
  refine lv_if_ne (tgt := 14) K.1 K.2.1 dX5_isUnderWay_4 (by decide) (fun c4 => ?_) (fun c4 => ?_)
  · refine lv_iconst (v := 1) K.1 K.2.1 dX5_isUnderWay_14 (by decide) ?_
    refine lv_goto (tgt := 19) K.1 K.2.1 dX5_isUnderWay_15 (by decide) ?_
    exact ret rfl (by exact (Eq.trans (if_neg c4) rfl)) hw dX5_isUnderWay_19
  · refine lv_aload_n K.1 K.2.1 dX5_isUnderWay_7 rfl (lv_at hl 0 rfl) ?_
    refine gD_1_5 K hw kf_X5_15 dX5_isUnderWay_8 ?_
    refine lv_if_le (tgt := 18) K.1 K.2.1 dX5_isUnderWay_11 (by decide) (fun c11 => ?_) (fun c11 => ?_)
    · refine lv_iconst (v := 0) K.1 K.2.1 dX5_isUnderWay_18 (by decide) ?_
      exact ret rfl (by exact (Eq.trans (if_pos c4) (Eq.trans (if_pos c11) rfl))) hw dX5_isUnderWay_19
    · refine lv_iconst (v := 1) K.1 K.2.1 dX5_isUnderWay_14 (by decide) ?_
      refine lv_goto (tgt := 19) K.1 K.2.1 dX5_isUnderWay_15 (by decide) ?_
      exact ret rfl (by exact (Eq.trans (if_pos c4) (Eq.trans (if_neg c11) rfl))) hw dX5_isUnderWay_19
def f_X5_hasText (σ0 : PS) : Int32 := (if (σ0.1 0) = 38 then (if (σ0.1 1) = 112 then (if (σ0.1 3) = 88 then 1 else 0) else 0) else 0)
abbrev rm_X5_hasText : Room := { frames := 0, cells := 0, slots := 0, locals := 0 }
theorem nz_X5_hasText {σ0 : PS} : NZ (f_X5_hasText σ0) := (nzI (nzI (nzI nz1 nz0) nz0) nz0)
set_option maxHeartbeats 4000000 in
set_option maxRecDepth 100000 in
theorem c_X5_hasText (l : Launch) (D : va_G) (a : Nat → Nat) (cA : Nat → ClassId) (σ0 : PS) : CI l yX5_hasText cX5_hasText 1 .boolean rm_X5_hasText D (pdT cA) [.ref (a 1)] (pdW a cA σ0) (pdW a cA σ0) (f_X5_hasText σ0) := by
  refine en_i (by decide +kernel) (Nat.le_of_ble_eq_true rfl) nz_X5_hasText ?_
  intro p e s m args below meth c A ls Q K hw hl ret
  have hl : lv_has ls 1 [(0, .ref (a 1))] := hl
  refine lv_aload_n K.1 K.2.1 dX5_hasText_0 rfl (lv_at hl 0 rfl) ?_
  refine gD_1_0 K hw kf_X5_18 dX5_hasText_1 ?_
  refine lv_bipush (v := 38) K.1 K.2.1 dX5_hasText_4 (by decide) ?_
  refine lv_icmp_ne (tgt := 31) K.1 K.2.1 dX5_hasText_6 (by decide) (fun c6 => ?_) (fun c6 => ?_)
  · refine lv_iconst (v := 0) K.1 K.2.1 dX5_hasText_31 (by decide) ?_
    exact ret rfl (by exact (Eq.trans (if_neg c6) rfl)) hw dX5_hasText_32
  · refine lv_aload_n K.1 K.2.1 dX5_hasText_9 rfl (lv_at hl 0 rfl) ?_
    refine gD_1_1 K hw kf_X5_21 dX5_hasText_10 ?_
    refine lv_bipush (v := 112) K.1 K.2.1 dX5_hasText_13 (by decide) ?_
    refine lv_icmp_ne (tgt := 31) K.1 K.2.1 dX5_hasText_15 (by decide) (fun c15 => ?_) (fun c15 => ?_)
    · refine lv_iconst (v := 0) K.1 K.2.1 dX5_hasText_31 (by decide) ?_
      exact ret rfl (by exact (Eq.trans (if_pos c6) (Eq.trans (if_neg c15) rfl))) hw dX5_hasText_32
    · refine lv_aload_n K.1 K.2.1 dX5_hasText_18 rfl (lv_at hl 0 rfl) ?_
      refine gD_1_3 K hw kf_X5_24 dX5_hasText_19 ?_
      refine lv_bipush (v := 88) K.1 K.2.1 dX5_hasText_22 (by decide) ?_
      refine lv_icmp_ne (tgt := 31) K.1 K.2.1 dX5_hasText_24 (by decide) (fun c24 => ?_) (fun c24 => ?_)
      · refine lv_iconst (v := 0) K.1 K.2.1 dX5_hasText_31 (by decide) ?_
        exact ret rfl (by exact (Eq.trans (if_pos c6) (Eq.trans (if_pos c15) (Eq.trans (if_neg c24) rfl)))) hw dX5_hasText_32
      · refine lv_iconst (v := 1) K.1 K.2.1 dX5_hasText_27 (by decide) ?_
        refine lv_goto (tgt := 32) K.1 K.2.1 dX5_hasText_28 (by decide) ?_
        exact ret rfl (by exact (Eq.trans (if_pos c6) (Eq.trans (if_pos c15) (Eq.trans (if_pos c24) rfl)))) hw dX5_hasText_32
def f_X5_beginField (σ0 : PS) : PS := (upS (upS (upS (upS (upS (upS σ0 7 0) 8 0) 9 0) 10 0) 11 0) 12 1000)
theorem bx_X5_beginField {σ0 : PS} (hI : Bx σ0) : Bx (f_X5_beginField σ0) := (bxS_12 (bxS_11 (bxS_10 (bxQ_9 (bxQ_8 (bxS_7 hI) (by decide) (by decide)) (by decide) (by decide)))))
abbrev rm_X5_beginField : Room := { frames := 0, cells := 0, slots := 0, locals := 0 }
set_option maxHeartbeats 4000000 in
set_option maxRecDepth 100000 in
theorem c_X5_beginField (l : Launch) (D : va_G) (a : Nat → Nat) (cA : Nat → ClassId) (σ0 : PS) : CV l yX5_beginField cX5_beginField 1 rm_X5_beginField D (pdT cA) [.ref (a 1)] (pdW a cA σ0) (pdW a cA (f_X5_beginField σ0)) := by
  refine en_v (by decide +kernel) (Nat.le_of_ble_eq_true rfl) ?_
  intro p e s m args below meth c A ls Q K hw hl ret
  have hl : lv_has ls 1 [(0, .ref (a 1))] := hl
  refine lv_aload_n K.1 K.2.1 dX5_beginField_0 rfl (lv_at hl 0 rfl) ?_
  refine lv_iconst (v := 0) K.1 K.2.1 dX5_beginField_1 (by decide) ?_
  refine pD_1_7 K hw kf_X5_44 dX5_beginField_2 (fun H locs hw => ?_)
  refine lv_aload_n K.1 K.2.1 dX5_beginField_5 rfl (lv_at hl 0 rfl) ?_
  refine lv_iconst (v := 0) K.1 K.2.1 dX5_beginField_6 (by decide) ?_
  refine pD_1_8 K hw rfl rfl kf_X5_47 dX5_beginField_7 (fun H locs hw => ?_)
  refine lv_aload_n K.1 K.2.1 dX5_beginField_10 rfl (lv_at hl 0 rfl) ?_
  refine lv_iconst (v := 0) K.1 K.2.1 dX5_beginField_11 (by decide) ?_
  refine pD_1_9 K hw rfl rfl kf_X5_51 dX5_beginField_12 (fun H locs hw => ?_)
  refine lv_aload_n K.1 K.2.1 dX5_beginField_15 rfl (lv_at hl 0 rfl) ?_
  refine lv_iconst (v := 0) K.1 K.2.1 dX5_beginField_16 (by decide) ?_
  refine pD_1_10 K hw kf_X5_54 dX5_beginField_17 (fun H locs hw => ?_)
  refine lv_aload_n K.1 K.2.1 dX5_beginField_20 rfl (lv_at hl 0 rfl) ?_
  refine lv_iconst (v := 0) K.1 K.2.1 dX5_beginField_21 (by decide) ?_
  refine pD_1_11 K hw kf_X5_57 dX5_beginField_22 (fun H locs hw => ?_)
  refine lv_aload_n K.1 K.2.1 dX5_beginField_25 rfl (lv_at hl 0 rfl) ?_
  refine lv_sipush (v := 1000) K.1 K.2.1 dX5_beginField_26 (by decide) ?_
  refine pD_1_12 K hw kf_X5_60 dX5_beginField_29 (fun H locs hw => ?_)
  exact ret (congrArg (pdW a cA) (by exact rfl)) hw dX5_beginField_32
def f_X5_digit (σ0 : PS) (x1 : Int32) : PS := (if (σ0.1 7) = 3 then (upS (upS σ0 11 ((σ0.1 11) + (x1 * (σ0.1 12)))) 12 ((σ0.1 12) / 10)) else (upS (upS σ0 7 2) 10 (if (((σ0.1 10) * 10) + x1) < 32767 then (((σ0.1 10) * 10) + x1) else 32767)))
theorem bx_X5_digit {σ0 : PS} {x1 : Int32} (hI : Bx σ0) : Bx (f_X5_digit σ0 x1) := (bxI (fun c5 => (bxS_12 (bxS_11 hI))) (fun c5 => (bxS_10 (bxS_7 hI))))
abbrev rm_X5_digit : Room := { frames := 1, cells := 0, slots := 0, locals := 21 }
set_option maxHeartbeats 4000000 in
set_option maxRecDepth 100000 in
theorem c_X5_digit (l : Launch) (D : va_G) (a : Nat → Nat) (cA : Nat → ClassId) (σ0 : PS) (x1 : Int32) : CV l yX5_digit cX5_digit 2 rm_X5_digit D (pdT cA) [.ref (a 1), .int x1] (pdW a cA σ0) (pdW a cA (f_X5_digit σ0 x1)) := by
  refine en_v (by decide +kernel) (Nat.le_of_ble_eq_true rfl) ?_
  intro p e s m args below meth c A ls Q K hw hl ret
  have hl : lv_has ls 2 [(0, .ref (a 1)), (1, .int x1)] := hl
  refine lv_aload_n K.1 K.2.1 dX5_digit_0 rfl (lv_at hl 0 rfl) ?_
  refine gD_1_7 K hw kf_X5_44 dX5_digit_1 ?_
  refine lv_iconst (v := 3) K.1 K.2.1 dX5_digit_4 (by decide) ?_
  refine lv_icmp_ne (tgt := 37) K.1 K.2.1 dX5_digit_5 (by decide) (fun c5 => ?_) (fun c5 => ?_)
  · refine lv_aload_n K.1 K.2.1 dX5_digit_37 rfl (lv_at hl 0 rfl) ?_
    refine lv_iconst (v := 2) K.1 K.2.1 dX5_digit_38 (by decide) ?_
    refine pD_1_7 K hw kf_X5_44 dX5_digit_39 (fun H locs hw => ?_)
    refine lv_aload_n K.1 K.2.1 dX5_digit_42 rfl (lv_at hl 0 rfl) ?_
    refine lv_sipush (v := 32767) K.1 K.2.1 dX5_digit_43 (by decide) ?_
    refine lv_aload_n K.1 K.2.1 dX5_digit_46 rfl (lv_at hl 0 rfl) ?_
    refine gD_1_10 K hw kf_X5_54 dX5_digit_47 ?_
    refine lv_bipush (v := 10) K.1 K.2.1 dX5_digit_50 (by decide) ?_
    refine lv_imul K.1 K.2.1 dX5_digit_52 ?_
    refine lv_iload_n K.1 K.2.1 dX5_digit_53 rfl (lv_at hl 1 rfl) ?_
    refine lv_iadd K.1 K.2.1 dX5_digit_54 ?_
    refine va_mmin K.1 K.2.1 (K.2.2.2.2.2.1.trans hl.1.symm) K.2.2.2.1 (K.2.2.1 _ km_X5_74) (K.2.2.1 _ kS_J9_min_7cf53) (K.2.2.1 _ ki_J9) (K.2.2.1 _ kC_J9_min_7cf53) (by decide) (Nat.le_of_ble_eq_true rfl) (Nat.zero_le _) (Nat.zero_le _) dX5_digit_55 ?_
    refine pD_1_10 K hw kf_X5_54 dX5_digit_58 (fun H locs hw => ?_)
    exact ret (congrArg (pdW a cA) (by exact (Eq.trans (if_neg c5) rfl))) hw dX5_digit_61
  · refine lv_aload_n K.1 K.2.1 dX5_digit_8 rfl (lv_at hl 0 rfl) ?_
    refine lv_dup K.1 K.2.1 dX5_digit_9 rfl ?_
    refine gD_1_11 K hw kf_X5_57 dX5_digit_10 ?_
    refine lv_iload_n K.1 K.2.1 dX5_digit_13 rfl (lv_at hl 1 rfl) ?_
    refine lv_aload_n K.1 K.2.1 dX5_digit_14 rfl (lv_at hl 0 rfl) ?_
    refine gD_1_12 K hw kf_X5_60 dX5_digit_15 ?_
    refine lv_imul K.1 K.2.1 dX5_digit_18 ?_
    refine lv_iadd K.1 K.2.1 dX5_digit_19 ?_
    refine pD_1_11 K hw kf_X5_57 dX5_digit_20 (fun H locs hw => ?_)
    refine lv_aload_n K.1 K.2.1 dX5_digit_23 rfl (lv_at hl 0 rfl) ?_
    refine lv_dup K.1 K.2.1 dX5_digit_24 rfl ?_
    refine gD_1_12 K hw kf_X5_60 dX5_digit_25 ?_
    refine lv_bipush (v := 10) K.1 K.2.1 dX5_digit_28 (by decide) ?_
    refine lv_idiv K.1 K.2.1 dX5_digit_30 (by decide) ?_
    refine pD_1_12 K hw kf_X5_60 dX5_digit_31 (fun H locs hw => ?_)
    refine lv_goto (tgt := 61) K.1 K.2.1 dX5_digit_34 (by decide) ?_
    exact ret (congrArg (pdW a cA) (by exact (Eq.trans (if_pos c5) rfl))) hw dX5_digit_61
def g_X5_belongsToValue_55 (σ : PS) (y1 : Int32) : PS × Int32 := (if (σ.1 7) = 0 then (if y1 = 43 then (if y1 = 45 then ((upS (upS (upS σ 7 1) 8 1) 9 1), 1) else ((upS (upS (upS σ 7 1) 8 1) 9 0), 1)) else (if y1 = 45 then ((upS (upS (upS σ 7 1) 8 0) 9 1), 1) else ((upS (upS (upS σ 7 1) 8 0) 9 0), 1))) else (σ, 0))
def g_X5_belongsToValue_43 (σ : PS) (y1 : Int32) : PS × Int32 := (if y1 = 43 then (g_X5_belongsToValue_55 σ y1) else (if y1 = 45 then (g_X5_belongsToValue_55 σ y1) else (σ, 0)))
def g_X5_belongsToValue_22 (σ : PS) (y1 : Int32) : PS × Int32 := (if y1 = 46 then (if (σ.1 7) = 3 then (g_X5_belongsToValue_43 σ y1) else ((upS σ 7 3), 1)) else (g_X5_belongsToValue_43 σ y1))
def f_X5_belongsToValue (σ0 : PS) (x1 : Int32) : PS × Int32 := (if x1 < 48 then (g_X5_belongsToValue_22 σ0 x1) else (if 57 < x1 then (g_X5_belongsToValue_22 σ0 x1) else let s17 : PS := f_X5_digit σ0 (x1 - 48); (s17, 1)))
theorem bx_g_X5_belongsToValue_55 {σ : PS} {y1 : Int32} (hI : Bx σ) : Bx (g_X5_belongsToValue_55 σ y1).1 := (bxI2 (fun c59 => (bxI2 (fun c71 => (bxI2 (fun c86 => (bxQ_9 (bxQ_8 (bxS_7 hI) (by decide) (by decide)) (by decide) (by decide))) (fun c86 => (bxQ_9 (bxQ_8 (bxS_7 hI) (by decide) (by decide)) (by decide) (by decide))))) (fun c71 => (bxI2 (fun c86 => (bxQ_9 (bxQ_8 (bxS_7 hI) (by decide) (by decide)) (by decide) (by decide))) (fun c86 => (bxQ_9 (bxQ_8 (bxS_7 hI) (by decide) (by decide)) (by decide) (by decide))))))) (fun c59 => hI))
theorem bx_g_X5_belongsToValue_43 {σ : PS} {y1 : Int32} (hI : Bx σ) : Bx (g_X5_belongsToValue_43 σ y1).1 := (bxI2 (fun c46 => (bx_g_X5_belongsToValue_55 hI)) (fun c46 => (bxI2 (fun c52 => (bx_g_X5_belongsToValue_55 hI)) (fun c52 => hI))))
theorem bx_g_X5_belongsToValue_22 {σ : PS} {y1 : Int32} (hI : Bx σ) : Bx (g_X5_belongsToValue_22 σ y1).1 := (bxI2 (fun c25 => (bxI2 (fun c33 => (bx_g_X5_belongsToValue_43 hI)) (fun c33 => (bxS_7 hI)))) (fun c25 => (bx_g_X5_belongsToValue_43 hI)))
theorem bx_X5_belongsToValue {σ0 : PS} {x1 : Int32} (hI : Bx σ0) : Bx (f_X5_belongsToValue σ0 x1).1 := (bxI2 (fun c3 => (bx_g_X5_belongsToValue_22 hI)) (fun c3 => (bxI2 (fun c9 => (bx_g_X5_belongsToValue_22 hI)) (fun c9 => (bx_X5_digit hI)))))
abbrev rm_X5_belongsToValue : Room := { frames := 2, cells := 0, slots := 0, locals := 42 }
theorem nz_g_X5_belongsToValue_55 {σ : PS} {y1 : Int32} : NZ (g_X5_belongsToValue_55 σ y1).2 := (nzI2 (nzI2 (nzI2 nz1 nz1) (nzI2 nz1 nz1)) nz0)
theorem nz_g_X5_belongsToValue_43 {σ : PS} {y1 : Int32} : NZ (g_X5_belongsToValue_43 σ y1).2 := (nzI2 nz_g_X5_belongsToValue_55 (nzI2 nz_g_X5_belongsToValue_55 nz0))
theorem nz_g_X5_belongsToValue_22 {σ : PS} {y1 : Int32} : NZ (g_X5_belongsToValue_22 σ y1).2 := (nzI2 (nzI2 nz_g_X5_belongsToValue_43 nz1) nz_g_X5_belongsToValue_43)
theorem nz_X5_belongsToValue {σ0 : PS} {x1 : Int32} : NZ (f_X5_belongsToValue σ0 x1).2 := (nzI2 nz_g_X5_belongsToValue_22 (nzI2 nz_g_X5_belongsToValue_22 nz1))
set_option maxHeartbeats 4000000 in
set_option maxRecDepth 100000 in
theorem c_X5_belongsToValue (l : Launch) (D : va_G) (a : Nat → Nat) (cA : Nat → ClassId) (σ0 : PS) (x1 : Int32) : CI l yX5_belongsToValue cX5_belongsToValue 2 .boolean rm_X5_belongsToValue D (pdT cA) [.ref (a 1), .int x1] (pdW a cA σ0) (pdW a cA (f_X5_belongsToValue σ0 x1).1) (f_X5_belongsToValue σ0 x1).2 := by
  refine en_i (by decide +kernel) (Nat.le_of_ble_eq_true rfl) nz_X5_belongsToValue ?_
  intro p e s m args below meth c A ls Q K hw hl ret
  have hl : lv_has ls 2 [(0, .ref (a 1)), (1, .int x1)] := hl
  have J55 : ∀ (σ : PS) (y1 : Int32) (H : Heap) (locs : List Loc) (ls : Array Slot), WD D A s.heap (pdW a cA σ) H locs → lv_has ls 2 [(0, .ref (a 1)), (1, .int y1)] → f_X5_belongsToValue σ0 x1 = g_X5_belongsToValue_55 σ y1 → W p l e rm_X5_belongsToValue s m args below meth c H locs 0 0 Q (F0 m 55 ls []) := by
    intro σ y1 H locs ls hw hl e0
    refine lv_aload_n K.1 K.2.1 dX5_belongsToValue_55 rfl (lv_at hl 0 rfl) ?_
    refine gD_1_7 K hw kf_X5_44 dX5_belongsToValue_56 ?_
    refine lv_if_ne (tgt := 99) K.1 K.2.1 dX5_belongsToValue_59 (by decide) (fun c59 => ?_) (fun c59 => ?_)
    · refine lv_iconst (v := 0) K.1 K.2.1 dX5_belongsToValue_99 (by decide) ?_
      have eq9 : f_X5_belongsToValue σ0 x1 = (σ, 0) := (by exact (Eq.trans e0 (Eq.trans (if_neg c59) rfl)))
      exact ret (congrArg (fun z => pdW a cA z.1) eq9) (congrArg (fun z => z.2) eq9) hw dX5_belongsToValue_100
    · refine lv_aload_n K.1 K.2.1 dX5_belongsToValue_62 rfl (lv_at hl 0 rfl) ?_
      refine lv_iconst (v := 1) K.1 K.2.1 dX5_belongsToValue_63 (by decide) ?_
      refine pD_1_7 K hw kf_X5_44 dX5_belongsToValue_64 (fun H locs hw => ?_)
      refine lv_aload_n K.1 K.2.1 dX5_belongsToValue_67 rfl (lv_at hl 0 rfl) ?_
      refine lv_iload_n K.1 K.2.1 dX5_belongsToValue_68 rfl (lv_at hl 1 rfl) ?_
      refine lv_bipush (v := 43) K.1 K.2.1 dX5_belongsToValue_69 (by decide) ?_
      refine lv_icmp_ne (tgt := 78) K.1 K.2.1 dX5_belongsToValue_71 (by decide) (fun c71 => ?_) (fun c71 => ?_)
      · refine lv_iconst (v := 0) K.1 K.2.1 dX5_belongsToValue_78 (by decide) ?_
        refine pD_1_8 K hw rfl rfl kf_X5_47 dX5_belongsToValue_79 (fun H locs hw => ?_)
        refine lv_aload_n K.1 K.2.1 dX5_belongsToValue_82 rfl (lv_at hl 0 rfl) ?_
        refine lv_iload_n K.1 K.2.1 dX5_belongsToValue_83 rfl (lv_at hl 1 rfl) ?_
        refine lv_bipush (v := 45) K.1 K.2.1 dX5_belongsToValue_84 (by decide) ?_
        refine lv_icmp_ne (tgt := 93) K.1 K.2.1 dX5_belongsToValue_86 (by decide) (fun c86 => ?_) (fun c86 => ?_)
        · refine lv_iconst (v := 0) K.1 K.2.1 dX5_belongsToValue_93 (by decide) ?_
          refine pD_1_9 K hw rfl rfl kf_X5_51 dX5_belongsToValue_94 (fun H locs hw => ?_)
          refine lv_iconst (v := 1) K.1 K.2.1 dX5_belongsToValue_97 (by decide) ?_
          have eq9 : f_X5_belongsToValue σ0 x1 = ((upS (upS (upS σ 7 1) 8 0) 9 0), 1) := (by exact (Eq.trans e0 (Eq.trans (if_pos c59) (Eq.trans (if_neg c71) (Eq.trans (if_neg c86) rfl)))))
          exact ret (congrArg (fun z => pdW a cA z.1) eq9) (congrArg (fun z => z.2) eq9) hw dX5_belongsToValue_98
        · refine lv_iconst (v := 1) K.1 K.2.1 dX5_belongsToValue_89 (by decide) ?_
          refine lv_goto (tgt := 94) K.1 K.2.1 dX5_belongsToValue_90 (by decide) ?_
          refine pD_1_9 K hw rfl rfl kf_X5_51 dX5_belongsToValue_94 (fun H locs hw => ?_)
          refine lv_iconst (v := 1) K.1 K.2.1 dX5_belongsToValue_97 (by decide) ?_
          have eq9 : f_X5_belongsToValue σ0 x1 = ((upS (upS (upS σ 7 1) 8 0) 9 1), 1) := (by exact (Eq.trans e0 (Eq.trans (if_pos c59) (Eq.trans (if_neg c71) (Eq.trans (if_pos c86) rfl)))))
          exact ret (congrArg (fun z => pdW a cA z.1) eq9) (congrArg (fun z => z.2) eq9) hw dX5_belongsToValue_98
      · refine lv_iconst (v := 1) K.1 K.2.1 dX5_belongsToValue_74 (by decide) ?_
        refine lv_goto (tgt := 79) K.1 K.2.1 dX5_belongsToValue_75 (by decide) ?_
        refine pD_1_8 K hw rfl rfl kf_X5_47 dX5_belongsToValue_79 (fun H locs hw => ?_)
        refine lv_aload_n K.1 K.2.1 dX5_belongsToValue_82 rfl (lv_at hl 0 rfl) ?_
        refine lv_iload_n K.1 K.2.1 dX5_belongsToValue_83 rfl (lv_at hl 1 rfl) ?_
        refine lv_bipush (v := 45) K.1 K.2.1 dX5_belongsToValue_84 (by decide) ?_
        refine lv_icmp_ne (tgt := 93) K.1 K.2.1 dX5_belongsToValue_86 (by decide) (fun c86 => ?_) (fun c86 => ?_)
        · refine lv_iconst (v := 0) K.1 K.2.1 dX5_belongsToValue_93 (by decide) ?_
          refine pD_1_9 K hw rfl rfl kf_X5_51 dX5_belongsToValue_94 (fun H locs hw => ?_)
          refine lv_iconst (v := 1) K.1 K.2.1 dX5_belongsToValue_97 (by decide) ?_
          have eq9 : f_X5_belongsToValue σ0 x1 = ((upS (upS (upS σ 7 1) 8 1) 9 0), 1) := (by exact (Eq.trans e0 (Eq.trans (if_pos c59) (Eq.trans (if_pos c71) (Eq.trans (if_neg c86) rfl)))))
          exact ret (congrArg (fun z => pdW a cA z.1) eq9) (congrArg (fun z => z.2) eq9) hw dX5_belongsToValue_98
        · refine lv_iconst (v := 1) K.1 K.2.1 dX5_belongsToValue_89 (by decide) ?_
          refine lv_goto (tgt := 94) K.1 K.2.1 dX5_belongsToValue_90 (by decide) ?_
          refine pD_1_9 K hw rfl rfl kf_X5_51 dX5_belongsToValue_94 (fun H locs hw => ?_)
          refine lv_iconst (v := 1) K.1 K.2.1 dX5_belongsToValue_97 (by decide) ?_
          have eq9 : f_X5_belongsToValue σ0 x1 = ((upS (upS (upS σ 7 1) 8 1) 9 1), 1) := (by exact (Eq.trans e0 (Eq.trans (if_pos c59) (Eq.trans (if_pos c71) (Eq.trans (if_pos c86) rfl)))))
          exact ret (congrArg (fun z => pdW a cA z.1) eq9) (congrArg (fun z => z.2) eq9) hw dX5_belongsToValue_98
  have J43 : ∀ (σ : PS) (y1 : Int32) (H : Heap) (locs : List Loc) (ls : Array Slot), WD D A s.heap (pdW a cA σ) H locs → lv_has ls 2 [(0, .ref (a 1)), (1, .int y1)] → f_X5_belongsToValue σ0 x1 = g_X5_belongsToValue_43 σ y1 → W p l e rm_X5_belongsToValue s m args below meth c H locs 0 0 Q (F0 m 43 ls []) := by
    intro σ y1 H locs ls hw hl e0
    refine lv_iload_n K.1 K.2.1 dX5_belongsToValue_43 rfl (lv_at hl 1 rfl) ?_
    refine lv_bipush (v := 43) K.1 K.2.1 dX5_belongsToValue_44 (by decide) ?_
    refine lv_icmp_eq (tgt := 55) K.1 K.2.1 dX5_belongsToValue_46 (by decide) (fun c46 => ?_) (fun c46 => ?_)
    · exact J55 _ _ _ _ _ hw (lv_sub hl [0, 1] rfl) (by exact (Eq.trans e0 (Eq.trans (if_pos c46) rfl)))
    · refine lv_iload_n K.1 K.2.1 dX5_belongsToValue_49 rfl (lv_at hl 1 rfl) ?_
      refine lv_bipush (v := 45) K.1 K.2.1 dX5_belongsToValue_50 (by decide) ?_
      refine lv_icmp_ne (tgt := 99) K.1 K.2.1 dX5_belongsToValue_52 (by decide) (fun c52 => ?_) (fun c52 => ?_)
      · refine lv_iconst (v := 0) K.1 K.2.1 dX5_belongsToValue_99 (by decide) ?_
        have eq9 : f_X5_belongsToValue σ0 x1 = (σ, 0) := (by exact (Eq.trans e0 (Eq.trans (if_neg c46) (Eq.trans (if_neg c52) rfl))))
        exact ret (congrArg (fun z => pdW a cA z.1) eq9) (congrArg (fun z => z.2) eq9) hw dX5_belongsToValue_100
      · exact J55 _ _ _ _ _ hw (lv_sub hl [0, 1] rfl) (by exact (Eq.trans e0 (Eq.trans (if_neg c46) (Eq.trans (if_pos c52) rfl))))
  have J22 : ∀ (σ : PS) (y1 : Int32) (H : Heap) (locs : List Loc) (ls : Array Slot), WD D A s.heap (pdW a cA σ) H locs → lv_has ls 2 [(0, .ref (a 1)), (1, .int y1)] → f_X5_belongsToValue σ0 x1 = g_X5_belongsToValue_22 σ y1 → W p l e rm_X5_belongsToValue s m args below meth c H locs 0 0 Q (F0 m 22 ls []) := by
    intro σ y1 H locs ls hw hl e0
    refine lv_iload_n K.1 K.2.1 dX5_belongsToValue_22 rfl (lv_at hl 1 rfl) ?_
    refine lv_bipush (v := 46) K.1 K.2.1 dX5_belongsToValue_23 (by decide) ?_
    refine lv_icmp_ne (tgt := 43) K.1 K.2.1 dX5_belongsToValue_25 (by decide) (fun c25 => ?_) (fun c25 => ?_)
    · exact J43 _ _ _ _ _ hw (lv_sub hl [0, 1] rfl) (by exact (Eq.trans e0 (Eq.trans (if_neg c25) rfl)))
    · refine lv_aload_n K.1 K.2.1 dX5_belongsToValue_28 rfl (lv_at hl 0 rfl) ?_
      refine gD_1_7 K hw kf_X5_44 dX5_belongsToValue_29 ?_
      refine lv_iconst (v := 3) K.1 K.2.1 dX5_belongsToValue_32 (by decide) ?_
      refine lv_icmp_eq (tgt := 43) K.1 K.2.1 dX5_belongsToValue_33 (by decide) (fun c33 => ?_) (fun c33 => ?_)
      · exact J43 _ _ _ _ _ hw (lv_sub hl [0, 1] rfl) (by exact (Eq.trans e0 (Eq.trans (if_pos c25) (Eq.trans (if_pos c33) rfl))))
      · refine lv_aload_n K.1 K.2.1 dX5_belongsToValue_36 rfl (lv_at hl 0 rfl) ?_
        refine lv_iconst (v := 3) K.1 K.2.1 dX5_belongsToValue_37 (by decide) ?_
        refine pD_1_7 K hw kf_X5_44 dX5_belongsToValue_38 (fun H locs hw => ?_)
        refine lv_iconst (v := 1) K.1 K.2.1 dX5_belongsToValue_41 (by decide) ?_
        have eq9 : f_X5_belongsToValue σ0 x1 = ((upS σ 7 3), 1) := (by exact (Eq.trans e0 (Eq.trans (if_pos c25) (Eq.trans (if_neg c33) rfl))))
        exact ret (congrArg (fun z => pdW a cA z.1) eq9) (congrArg (fun z => z.2) eq9) hw dX5_belongsToValue_42
  refine lv_iload_n K.1 K.2.1 dX5_belongsToValue_0 rfl (lv_at hl 1 rfl) ?_
  refine lv_bipush (v := 48) K.1 K.2.1 dX5_belongsToValue_1 (by decide) ?_
  refine lv_icmp_lt (tgt := 22) K.1 K.2.1 dX5_belongsToValue_3 (by decide) (fun c3 => ?_) (fun c3 => ?_)
  · exact J22 _ _ _ _ _ hw (lv_sub hl [0, 1] rfl) (by exact (Eq.trans (if_pos c3) rfl))
  · refine lv_iload_n K.1 K.2.1 dX5_belongsToValue_6 rfl (lv_at hl 1 rfl) ?_
    refine lv_bipush (v := 57) K.1 K.2.1 dX5_belongsToValue_7 (by decide) ?_
    refine lv_icmp_gt (tgt := 22) K.1 K.2.1 dX5_belongsToValue_9 (by decide) (fun c9 => ?_) (fun c9 => ?_)
    · exact J22 _ _ _ _ _ hw (lv_sub hl [0, 1] rfl) (by exact (Eq.trans (if_neg c3) (Eq.trans (if_pos c9) rfl)))
    · refine lv_aload_n K.1 K.2.1 dX5_belongsToValue_12 rfl (lv_at hl 0 rfl) ?_
      refine lv_iload_n K.1 K.2.1 dX5_belongsToValue_13 rfl (lv_at hl 1 rfl) ?_
      refine lv_bipush (v := 48) K.1 K.2.1 dX5_belongsToValue_14 (by decide) ?_
      refine lv_isub K.1 K.2.1 dX5_belongsToValue_16 ?_
      refine caV K hw (c_X5_digit l D a cA _ _) hl.1 (tt_V km_X5_71 kI_X5_digit ks_X5_digit ki_X5 kC_X5_digit) 1 (ci := 5) rfl rfl rfl (na := 1) rfl (by decide +kernel) ⟨rfl, rfl⟩ (by decide) ⟨Nat.zero_le _, Nat.zero_le _⟩ rfl (Nat.le_of_ble_eq_true rfl) dX5_belongsToValue_17 (fun H locs hw => ?_)
      obtain ⟨s17, es17, hw⟩ := nmD hw
      refine lv_iconst (v := 1) K.1 K.2.1 dX5_belongsToValue_20 (by decide) ?_
      have eq9 : f_X5_belongsToValue σ0 x1 = (s17, 1) := (by subst es17; exact (Eq.trans (if_neg c3) (Eq.trans (if_neg c9) rfl)))
      exact ret (congrArg (fun z => pdW a cA z.1) eq9) (congrArg (fun z => z.2) eq9) hw dX5_belongsToValue_21
def g_X5_endField_90 (σ : PS) : PS := let s95 : PS := f_X5_beginField (upS σ 5 0); s95
def g_X5_endField_76 (σ : PS) : PS := (if (σ.1 9) = 0 then let s95 : PS := f_X5_beginField (upS σ 5 (σ.1 10)); s95 else (g_X5_endField_90 σ))
def g_X5_endField_46 (σ : PS) (y1 : Int32) : PS := (if y1 = 87 then (g_X5_endField_76 (upS (upS σ 4 1) 3 y1)) else (if (f_X5_hasText (upS (upS σ 4 1) 3 y1)) = 0 then (g_X5_endField_90 (upS (upS σ 4 1) 3 y1)) else (g_X5_endField_76 (upS (upS σ 4 1) 3 y1))))
def g_X5_endField_28 (σ : PS) (y1 : Int32) (k0 : Int32) : PS := (if (σ.1 8) = 0 then (if (σ.1 9) = 0 then (if y1 = 87 then (g_X5_endField_76 (upS (upS (upS σ 2 k0) 4 0) 3 y1)) else (if (f_X5_hasText (upS (upS (upS σ 2 k0) 4 0) 3 y1)) = 0 then (g_X5_endField_90 (upS (upS (upS σ 2 k0) 4 0) 3 y1)) else (g_X5_endField_76 (upS (upS (upS σ 2 k0) 4 0) 3 y1)))) else (g_X5_endField_46 (upS σ 2 k0) y1)) else (g_X5_endField_46 (upS σ 2 k0) y1))
def f_X5_endField (σ0 : PS) (x1 : Int32) : PS := let x2_13 : Int32 := (((σ0.1 10) * 10000) + (σ0.1 11)); (if (σ0.1 9) = 0 then (g_X5_endField_28 σ0 x1 x2_13) else (g_X5_endField_28 σ0 x1 (-x2_13)))
theorem bx_g_X5_endField_90 {σ : PS} (hI : Bx σ) : Bx (g_X5_endField_90 σ) := (bx_X5_beginField (bxS_5 hI))
theorem bx_g_X5_endField_76 {σ : PS} (hI : Bx σ) : Bx (g_X5_endField_76 σ) := (bxI (fun c80 => (bx_X5_beginField (bxS_5 hI))) (fun c80 => (bx_g_X5_endField_90 hI)))
theorem bx_g_X5_endField_46 {σ : PS} {y1 : Int32} (hI : Bx σ) : Bx (g_X5_endField_46 σ y1) := (bxI (fun c66 => (bx_g_X5_endField_76 (bxS_3 (bxQ_4 hI (by decide) (by decide))))) (fun c66 => (bxI (fun c73 => (bx_g_X5_endField_90 (bxS_3 (bxQ_4 hI (by decide) (by decide))))) (fun c73 => (bx_g_X5_endField_76 (bxS_3 (bxQ_4 hI (by decide) (by decide))))))))
theorem bx_g_X5_endField_28 {σ : PS} {y1 : Int32} {k0 : Int32} (hI : Bx σ) : Bx (g_X5_endField_28 σ y1 k0) := (bxI (fun c36 => (bxI (fun c43 => (bxI (fun c66 => (bx_g_X5_endField_76 (bxS_3 (bxQ_4 (bxS_2 hI) (by decide) (by decide))))) (fun c66 => (bxI (fun c73 => (bx_g_X5_endField_90 (bxS_3 (bxQ_4 (bxS_2 hI) (by decide) (by decide))))) (fun c73 => (bx_g_X5_endField_76 (bxS_3 (bxQ_4 (bxS_2 hI) (by decide) (by decide))))))))) (fun c43 => (bx_g_X5_endField_46 (bxS_2 hI))))) (fun c36 => (bx_g_X5_endField_46 (bxS_2 hI))))
theorem bx_X5_endField {σ0 : PS} {x1 : Int32} (hI : Bx σ0) : Bx (f_X5_endField σ0 x1) := (bxI (fun c19 => (bx_g_X5_endField_28 hI)) (fun c19 => (bx_g_X5_endField_28 hI)))
abbrev rm_X5_endField : Room := { frames := 1, cells := 0, slots := 0, locals := 20 }
set_option maxHeartbeats 4000000 in
set_option maxRecDepth 100000 in
theorem c_X5_endField (l : Launch) (D : va_G) (a : Nat → Nat) (cA : Nat → ClassId) (σ0 : PS) (x1 : Int32) : CV l yX5_endField cX5_endField 3 rm_X5_endField D (pdT cA) [.ref (a 1), .int x1] (pdW a cA σ0) (pdW a cA (f_X5_endField σ0 x1)) := by
  refine en_v (by decide +kernel) (Nat.le_of_ble_eq_true rfl) ?_
  intro p e s m args below meth c A ls Q K hw hl ret
  have hl : lv_has ls 3 [(0, .ref (a 1)), (1, .int x1)] := hl
  have J90 : ∀ (σ : PS) (H : Heap) (locs : List Loc) (ls : Array Slot), WD D A s.heap (pdW a cA σ) H locs → lv_has ls 3 [(0, .ref (a 1))] → f_X5_endField σ0 x1 = g_X5_endField_90 σ → W p l e rm_X5_endField s m args below meth c H locs 0 0 Q (F0 m 90 ls [.ref (a 1)]) := by
    intro σ H locs ls hw hl e0
    refine lv_iconst (v := 0) K.1 K.2.1 dX5_endField_90 (by decide) ?_
    refine pD_1_5 K hw kf_X5_15 dX5_endField_91 (fun H locs hw => ?_)
    refine lv_aload_n K.1 K.2.1 dX5_endField_94 rfl (lv_at hl 0 rfl) ?_
    refine caV K hw (c_X5_beginField l D a cA _) hl.1 (tt_V km_X5_41 kI_X5_beginField ks_X5_beginField ki_X5 kC_X5_beginField) 1 (ci := 5) rfl rfl rfl (na := 0) rfl (by decide +kernel) ⟨rfl, rfl⟩ (by decide) ⟨Nat.zero_le _, Nat.zero_le _⟩ rfl (Nat.le_of_ble_eq_true rfl) dX5_endField_95 (fun H locs hw => ?_)
    obtain ⟨s95, es95, hw⟩ := nmD hw
    exact ret (congrArg (pdW a cA) (by subst es95; exact (Eq.trans e0 rfl))) hw dX5_endField_98
  have J76 : ∀ (σ : PS) (H : Heap) (locs : List Loc) (ls : Array Slot), WD D A s.heap (pdW a cA σ) H locs → lv_has ls 3 [(0, .ref (a 1))] → f_X5_endField σ0 x1 = g_X5_endField_76 σ → W p l e rm_X5_endField s m args below meth c H locs 0 0 Q (F0 m 76 ls [.ref (a 1)]) := by
    intro σ H locs ls hw hl e0
    refine lv_aload_n K.1 K.2.1 dX5_endField_76 rfl (lv_at hl 0 rfl) ?_
    refine gD_1_9 K hw kf_X5_51 dX5_endField_77 ?_
    refine lv_if_ne (tgt := 90) K.1 K.2.1 dX5_endField_80 (by decide) (fun c80 => ?_) (fun c80 => ?_)
    · exact J90 _ _ _ _ hw (lv_sub hl [0] rfl) (by exact (Eq.trans e0 (Eq.trans (if_neg c80) rfl)))
    · refine lv_aload_n K.1 K.2.1 dX5_endField_83 rfl (lv_at hl 0 rfl) ?_
      refine gD_1_10 K hw kf_X5_54 dX5_endField_84 ?_
      refine lv_goto (tgt := 91) K.1 K.2.1 dX5_endField_87 (by decide) ?_
      refine pD_1_5 K hw kf_X5_15 dX5_endField_91 (fun H locs hw => ?_)
      refine lv_aload_n K.1 K.2.1 dX5_endField_94 rfl (lv_at hl 0 rfl) ?_
      refine caV K hw (c_X5_beginField l D a cA _) hl.1 (tt_V km_X5_41 kI_X5_beginField ks_X5_beginField ki_X5 kC_X5_beginField) 1 (ci := 5) rfl rfl rfl (na := 0) rfl (by decide +kernel) ⟨rfl, rfl⟩ (by decide) ⟨Nat.zero_le _, Nat.zero_le _⟩ rfl (Nat.le_of_ble_eq_true rfl) dX5_endField_95 (fun H locs hw => ?_)
      obtain ⟨s95, es95, hw⟩ := nmD hw
      exact ret (congrArg (pdW a cA) (by subst es95; exact (Eq.trans e0 (Eq.trans (if_pos c80) rfl)))) hw dX5_endField_98
  have J46 : ∀ (σ : PS) (y1 : Int32) (H : Heap) (locs : List Loc) (ls : Array Slot), WD D A s.heap (pdW a cA σ) H locs → lv_has ls 3 [(0, .ref (a 1)), (1, .int y1)] → f_X5_endField σ0 x1 = g_X5_endField_46 σ y1 → W p l e rm_X5_endField s m args below meth c H locs 0 0 Q (F0 m 46 ls [.ref (a 1)]) := by
    intro σ y1 H locs ls hw hl e0
    refine lv_iconst (v := 1) K.1 K.2.1 dX5_endField_46 (by decide) ?_
    refine lv_goto (tgt := 51) K.1 K.2.1 dX5_endField_47 (by decide) ?_
    refine pD_1_4 K hw rfl rfl kf_X5_83 dX5_endField_51 (fun H locs hw => ?_)
    refine lv_aload_n K.1 K.2.1 dX5_endField_54 rfl (lv_at hl 0 rfl) ?_
    refine lv_iload_n K.1 K.2.1 dX5_endField_55 rfl (lv_at hl 1 rfl) ?_
    refine pD_1_3 K hw kf_X5_24 dX5_endField_56 (fun H locs hw => ?_)
    refine lv_aload_n K.1 K.2.1 dX5_endField_59 rfl (lv_at hl 0 rfl) ?_
    refine lv_aload_n K.1 K.2.1 dX5_endField_60 rfl (lv_at hl 0 rfl) ?_
    refine gD_1_3 K hw kf_X5_24 dX5_endField_61 ?_
    refine lv_bipush (v := 87) K.1 K.2.1 dX5_endField_64 (by decide) ?_
    refine lv_icmp_eq (tgt := 76) K.1 K.2.1 dX5_endField_66 (by decide) (fun c66 => ?_) (fun c66 => ?_)
    · exact J76 _ _ _ _ hw (lv_sub hl [0] rfl) (by exact (Eq.trans e0 (Eq.trans (if_pos c66) rfl)))
    · refine lv_aload_n K.1 K.2.1 dX5_endField_69 rfl (lv_at hl 0 rfl) ?_
      refine caI K hw (c_X5_hasText l D a cA _) hl.1 (tt_V km_X5_27 kI_X5_hasText ks_X5_hasText ki_X5 kC_X5_hasText) 1 (ci := 5) rfl rfl rfl (na := 0) rfl (by decide +kernel) ⟨rfl, rfl⟩ (by decide) ⟨Nat.zero_le _, Nat.zero_le _⟩ rfl (Nat.le_of_ble_eq_true rfl) dX5_endField_70 (fun H locs hw => ?_)
      refine lv_if_eq (tgt := 90) K.1 K.2.1 dX5_endField_73 (by decide) (fun c73 => ?_) (fun c73 => ?_)
      · exact J90 _ _ _ _ hw (lv_sub hl [0] rfl) (by exact (Eq.trans e0 (Eq.trans (if_neg c66) (Eq.trans (if_pos c73) rfl))))
      · exact J76 _ _ _ _ hw (lv_sub hl [0] rfl) (by exact (Eq.trans e0 (Eq.trans (if_neg c66) (Eq.trans (if_neg c73) rfl))))
  have J28 : ∀ (σ : PS) (y1 : Int32) (k0 : Int32) (H : Heap) (locs : List Loc) (ls : Array Slot), WD D A s.heap (pdW a cA σ) H locs → lv_has ls 3 [(0, .ref (a 1)), (1, .int y1)] → f_X5_endField σ0 x1 = g_X5_endField_28 σ y1 k0 → W p l e rm_X5_endField s m args below meth c H locs 0 0 Q (F0 m 28 ls [.int k0, .ref (a 1)]) := by
    intro σ y1 k0 H locs ls hw hl e0
    refine pD_1_2 K hw kf_X5_80 dX5_endField_28 (fun H locs hw => ?_)
    refine lv_aload_n K.1 K.2.1 dX5_endField_31 rfl (lv_at hl 0 rfl) ?_
    refine lv_aload_n K.1 K.2.1 dX5_endField_32 rfl (lv_at hl 0 rfl) ?_
    refine gD_1_8 K hw kf_X5_47 dX5_endField_33 ?_
    refine lv_if_ne (tgt := 46) K.1 K.2.1 dX5_endField_36 (by decide) (fun c36 => ?_) (fun c36 => ?_)
    · exact J46 _ _ _ _ _ hw (lv_sub hl [0, 1] rfl) (by exact (Eq.trans e0 (Eq.trans (if_neg c36) rfl)))
    · refine lv_aload_n K.1 K.2.1 dX5_endField_39 rfl (lv_at hl 0 rfl) ?_
      refine gD_1_9 K hw kf_X5_51 dX5_endField_40 ?_
      refine lv_if_eq (tgt := 50) K.1 K.2.1 dX5_endField_43 (by decide) (fun c43 => ?_) (fun c43 => ?_)
      · refine lv_iconst (v := 0) K.1 K.2.1 dX5_endField_50 (by decide) ?_
        refine pD_1_4 K hw rfl rfl kf_X5_83 dX5_endField_51 (fun H locs hw => ?_)
        refine lv_aload_n K.1 K.2.1 dX5_endField_54 rfl (lv_at hl 0 rfl) ?_
        refine lv_iload_n K.1 K.2.1 dX5_endField_55 rfl (lv_at hl 1 rfl) ?_
        refine pD_1_3 K hw kf_X5_24 dX5_endField_56 (fun H locs hw => ?_)
        refine lv_aload_n K.1 K.2.1 dX5_endField_59 rfl (lv_at hl 0 rfl) ?_
        refine lv_aload_n K.1 K.2.1 dX5_endField_60 rfl (lv_at hl 0 rfl) ?_
        refine gD_1_3 K hw kf_X5_24 dX5_endField_61 ?_
        refine lv_bipush (v := 87) K.1 K.2.1 dX5_endField_64 (by decide) ?_
        refine lv_icmp_eq (tgt := 76) K.1 K.2.1 dX5_endField_66 (by decide) (fun c66 => ?_) (fun c66 => ?_)
        · exact J76 _ _ _ _ hw (lv_sub hl [0] rfl) (by exact (Eq.trans e0 (Eq.trans (if_pos c36) (Eq.trans (if_pos c43) (Eq.trans (if_pos c66) rfl)))))
        · refine lv_aload_n K.1 K.2.1 dX5_endField_69 rfl (lv_at hl 0 rfl) ?_
          refine caI K hw (c_X5_hasText l D a cA _) hl.1 (tt_V km_X5_27 kI_X5_hasText ks_X5_hasText ki_X5 kC_X5_hasText) 1 (ci := 5) rfl rfl rfl (na := 0) rfl (by decide +kernel) ⟨rfl, rfl⟩ (by decide) ⟨Nat.zero_le _, Nat.zero_le _⟩ rfl (Nat.le_of_ble_eq_true rfl) dX5_endField_70 (fun H locs hw => ?_)
          refine lv_if_eq (tgt := 90) K.1 K.2.1 dX5_endField_73 (by decide) (fun c73 => ?_) (fun c73 => ?_)
          · exact J90 _ _ _ _ hw (lv_sub hl [0] rfl) (by exact (Eq.trans e0 (Eq.trans (if_pos c36) (Eq.trans (if_pos c43) (Eq.trans (if_neg c66) (Eq.trans (if_pos c73) rfl))))))
          · exact J76 _ _ _ _ hw (lv_sub hl [0] rfl) (by exact (Eq.trans e0 (Eq.trans (if_pos c36) (Eq.trans (if_pos c43) (Eq.trans (if_neg c66) (Eq.trans (if_neg c73) rfl))))))
      · exact J46 _ _ _ _ _ hw (lv_sub hl [0, 1] rfl) (by exact (Eq.trans e0 (Eq.trans (if_pos c36) (Eq.trans (if_neg c43) rfl))))
  refine lv_aload_n K.1 K.2.1 dX5_endField_0 rfl (lv_at hl 0 rfl) ?_
  refine gD_1_10 K hw kf_X5_54 dX5_endField_1 ?_
  refine lv_sipush (v := 10000) K.1 K.2.1 dX5_endField_4 (by decide) ?_
  refine lv_imul K.1 K.2.1 dX5_endField_7 ?_
  refine lv_aload_n K.1 K.2.1 dX5_endField_8 rfl (lv_at hl 0 rfl) ?_
  refine gD_1_11 K hw kf_X5_57 dX5_endField_9 ?_
  refine lv_iadd K.1 K.2.1 dX5_endField_12 ?_
  refine lv_topi (fun x2_13 ex2_13 => ?_)
  refine lv_istore_n (lv' := [(2, .int x2_13), (0, .ref (a 1)), (1, .int x1)]) K.1 K.2.1 dX5_endField_13 rfl hl (by decide) rfl (fun ls hl => ?_)
  refine lv_aload_n K.1 K.2.1 dX5_endField_14 rfl (lv_at hl 1 rfl) ?_
  refine lv_aload_n K.1 K.2.1 dX5_endField_15 rfl (lv_at hl 1 rfl) ?_
  refine gD_1_9 K hw kf_X5_51 dX5_endField_16 ?_
  refine lv_if_eq (tgt := 27) K.1 K.2.1 dX5_endField_19 (by decide) (fun c19 => ?_) (fun c19 => ?_)
  · refine lv_iload_n K.1 K.2.1 dX5_endField_27 rfl (lv_at hl 0 rfl) ?_
    exact J28 _ _ _ _ _ _ hw (lv_sub hl [1, 2] rfl) (by subst ex2_13; exact (Eq.trans (if_pos c19) rfl))
  · refine lv_iload_n K.1 K.2.1 dX5_endField_22 rfl (lv_at hl 0 rfl) ?_
    refine lv_ineg K.1 K.2.1 dX5_endField_23 ?_
    refine lv_goto (tgt := 28) K.1 K.2.1 dX5_endField_24 (by decide) ?_
    exact J28 _ _ _ _ _ _ hw (lv_sub hl [1, 2] rfl) (by subst ex2_13; exact (Eq.trans (if_neg c19) rfl))
def g_X5_inField_46 (σ : PS) (y1 : Int32) : PS × Int32 := let s48 : PS := (f_X5_belongsToValue σ y1).1; (if (f_X5_belongsToValue σ y1).2 = 0 then ((upS s48 6 0), 0) else (s48, 0))
def g_X5_inField_22 (σ : PS) (y1 : Int32) : PS × Int32 := (if y1 < 64 then (g_X5_inField_46 σ y1) else (if 94 < y1 then (g_X5_inField_46 σ y1) else let s41 : PS := f_X5_endField (upS σ 6 0) y1; (s41, 4)))
def f_X5_inField (σ0 : PS) (x1 : Int32) : PS × Int32 := (if x1 < 96 then (g_X5_inField_22 σ0 x1) else (if 126 < x1 then (g_X5_inField_22 σ0 x1) else let s17 : PS := f_X5_endField σ0 (x1 - 32); (s17, 4)))
theorem bx_g_X5_inField_46 {σ : PS} {y1 : Int32} (hI : Bx σ) : Bx (g_X5_inField_46 σ y1).1 := (bxI2 (fun c51 => (bxS_6 (bx_X5_belongsToValue hI))) (fun c51 => (bx_X5_belongsToValue hI)))
theorem bx_g_X5_inField_22 {σ : PS} {y1 : Int32} (hI : Bx σ) : Bx (g_X5_inField_22 σ y1).1 := (bxI2 (fun c25 => (bx_g_X5_inField_46 hI)) (fun c25 => (bxI2 (fun c31 => (bx_g_X5_inField_46 hI)) (fun c31 => (bx_X5_endField (bxS_6 hI))))))
theorem bx_X5_inField {σ0 : PS} {x1 : Int32} (hI : Bx σ0) : Bx (f_X5_inField σ0 x1).1 := (bxI2 (fun c3 => (bx_g_X5_inField_22 hI)) (fun c3 => (bxI2 (fun c9 => (bx_g_X5_inField_22 hI)) (fun c9 => (bx_X5_endField hI)))))
abbrev rm_X5_inField : Room := { frames := 3, cells := 0, slots := 0, locals := 63 }
set_option maxHeartbeats 4000000 in
set_option maxRecDepth 100000 in
theorem c_X5_inField (l : Launch) (D : va_G) (a : Nat → Nat) (cA : Nat → ClassId) (σ0 : PS) (x1 : Int32) : CI l yX5_inField cX5_inField 2 .int rm_X5_inField D (pdT cA) [.ref (a 1), .int x1] (pdW a cA σ0) (pdW a cA (f_X5_inField σ0 x1).1) (f_X5_inField σ0 x1).2 := by
  refine en_i (by decide +kernel) (Nat.le_of_ble_eq_true rfl) rfl ?_
  intro p e s m args below meth c A ls Q K hw hl ret
  have hl : lv_has ls 2 [(0, .ref (a 1)), (1, .int x1)] := hl
  have J46 : ∀ (σ : PS) (y1 : Int32) (H : Heap) (locs : List Loc) (ls : Array Slot), WD D A s.heap (pdW a cA σ) H locs → lv_has ls 2 [(0, .ref (a 1)), (1, .int y1)] → f_X5_inField σ0 x1 = g_X5_inField_46 σ y1 → W p l e rm_X5_inField s m args below meth c H locs 0 0 Q (F0 m 46 ls []) := by
    intro σ y1 H locs ls hw hl e0
    refine lv_aload_n K.1 K.2.1 dX5_inField_46 rfl (lv_at hl 0 rfl) ?_
    refine lv_iload_n K.1 K.2.1 dX5_inField_47 rfl (lv_at hl 1 rfl) ?_
    refine caI K hw (c_X5_belongsToValue l D a cA _ _) hl.1 (tt_V km_X5_67 kI_X5_belongsToValue ks_X5_belongsToValue ki_X5 kC_X5_belongsToValue) 1 (ci := 5) rfl rfl rfl (na := 1) rfl (by decide +kernel) ⟨rfl, rfl⟩ (by decide) ⟨Nat.zero_le _, Nat.zero_le _⟩ rfl (Nat.le_of_ble_eq_true rfl) dX5_inField_48 (fun H locs hw => ?_)
    obtain ⟨s48, es48, hw⟩ := nmD hw
    refine lv_if_ne (tgt := 59) K.1 K.2.1 dX5_inField_51 (by decide) (fun c51 => ?_) (fun c51 => ?_)
    · refine lv_iconst (v := 0) K.1 K.2.1 dX5_inField_59 (by decide) ?_
      have eq9 : f_X5_inField σ0 x1 = (s48, 0) := (by subst es48; exact (Eq.trans e0 (Eq.trans (if_neg c51) rfl)))
      exact ret (congrArg (fun z => pdW a cA z.1) eq9) (congrArg (fun z => z.2) eq9) hw dX5_inField_60
    · refine lv_aload_n K.1 K.2.1 dX5_inField_54 rfl (lv_at hl 0 rfl) ?_
      refine lv_iconst (v := 0) K.1 K.2.1 dX5_inField_55 (by decide) ?_
      refine pD_1_6 K hw kf_X5_9 dX5_inField_56 (fun H locs hw => ?_)
      refine lv_iconst (v := 0) K.1 K.2.1 dX5_inField_59 (by decide) ?_
      have eq9 : f_X5_inField σ0 x1 = ((upS s48 6 0), 0) := (by subst es48; exact (Eq.trans e0 (Eq.trans (if_pos c51) rfl)))
      exact ret (congrArg (fun z => pdW a cA z.1) eq9) (congrArg (fun z => z.2) eq9) hw dX5_inField_60
  have J22 : ∀ (σ : PS) (y1 : Int32) (H : Heap) (locs : List Loc) (ls : Array Slot), WD D A s.heap (pdW a cA σ) H locs → lv_has ls 2 [(0, .ref (a 1)), (1, .int y1)] → f_X5_inField σ0 x1 = g_X5_inField_22 σ y1 → W p l e rm_X5_inField s m args below meth c H locs 0 0 Q (F0 m 22 ls []) := by
    intro σ y1 H locs ls hw hl e0
    refine lv_iload_n K.1 K.2.1 dX5_inField_22 rfl (lv_at hl 1 rfl) ?_
    refine lv_bipush (v := 64) K.1 K.2.1 dX5_inField_23 (by decide) ?_
    refine lv_icmp_lt (tgt := 46) K.1 K.2.1 dX5_inField_25 (by decide) (fun c25 => ?_) (fun c25 => ?_)
    · exact J46 _ _ _ _ _ hw (lv_sub hl [0, 1] rfl) (by exact (Eq.trans e0 (Eq.trans (if_pos c25) rfl)))
    · refine lv_iload_n K.1 K.2.1 dX5_inField_28 rfl (lv_at hl 1 rfl) ?_
      refine lv_bipush (v := 94) K.1 K.2.1 dX5_inField_29 (by decide) ?_
      refine lv_icmp_gt (tgt := 46) K.1 K.2.1 dX5_inField_31 (by decide) (fun c31 => ?_) (fun c31 => ?_)
      · exact J46 _ _ _ _ _ hw (lv_sub hl [0, 1] rfl) (by exact (Eq.trans e0 (Eq.trans (if_neg c25) (Eq.trans (if_pos c31) rfl))))
      · refine lv_aload_n K.1 K.2.1 dX5_inField_34 rfl (lv_at hl 0 rfl) ?_
        refine lv_iconst (v := 0) K.1 K.2.1 dX5_inField_35 (by decide) ?_
        refine pD_1_6 K hw kf_X5_9 dX5_inField_36 (fun H locs hw => ?_)
        refine lv_aload_n K.1 K.2.1 dX5_inField_39 rfl (lv_at hl 0 rfl) ?_
        refine lv_iload_n K.1 K.2.1 dX5_inField_40 rfl (lv_at hl 1 rfl) ?_
        refine caV K hw (c_X5_endField l D a cA _ _) hl.1 (tt_V km_X5_63 kI_X5_endField ks_X5_endField ki_X5 kC_X5_endField) 1 (ci := 5) rfl rfl rfl (na := 1) rfl (by decide +kernel) ⟨rfl, rfl⟩ (by decide) ⟨Nat.zero_le _, Nat.zero_le _⟩ rfl (Nat.le_of_ble_eq_true rfl) dX5_inField_41 (fun H locs hw => ?_)
        obtain ⟨s41, es41, hw⟩ := nmD hw
        refine lv_iconst (v := 4) K.1 K.2.1 dX5_inField_44 (by decide) ?_
        have eq9 : f_X5_inField σ0 x1 = (s41, 4) := (by subst es41; exact (Eq.trans e0 (Eq.trans (if_neg c25) (Eq.trans (if_neg c31) rfl))))
        exact ret (congrArg (fun z => pdW a cA z.1) eq9) (congrArg (fun z => z.2) eq9) hw dX5_inField_45
  refine lv_iload_n K.1 K.2.1 dX5_inField_0 rfl (lv_at hl 1 rfl) ?_
  refine lv_bipush (v := 96) K.1 K.2.1 dX5_inField_1 (by decide) ?_
  refine lv_icmp_lt (tgt := 22) K.1 K.2.1 dX5_inField_3 (by decide) (fun c3 => ?_) (fun c3 => ?_)
  · exact J22 _ _ _ _ _ hw (lv_sub hl [0, 1] rfl) (by exact (Eq.trans (if_pos c3) rfl))
  · refine lv_iload_n K.1 K.2.1 dX5_inField_6 rfl (lv_at hl 1 rfl) ?_
    refine lv_bipush (v := 126) K.1 K.2.1 dX5_inField_7 (by decide) ?_
    refine lv_icmp_gt (tgt := 22) K.1 K.2.1 dX5_inField_9 (by decide) (fun c9 => ?_) (fun c9 => ?_)
    · exact J22 _ _ _ _ _ hw (lv_sub hl [0, 1] rfl) (by exact (Eq.trans (if_neg c3) (Eq.trans (if_pos c9) rfl)))
    · refine lv_aload_n K.1 K.2.1 dX5_inField_12 rfl (lv_at hl 0 rfl) ?_
      refine lv_iload_n K.1 K.2.1 dX5_inField_13 rfl (lv_at hl 1 rfl) ?_
      refine lv_bipush (v := 32) K.1 K.2.1 dX5_inField_14 (by decide) ?_
      refine lv_isub K.1 K.2.1 dX5_inField_16 ?_
      refine caV K hw (c_X5_endField l D a cA _ _) hl.1 (tt_V km_X5_63 kI_X5_endField ks_X5_endField ki_X5 kC_X5_endField) 1 (ci := 5) rfl rfl rfl (na := 1) rfl (by decide +kernel) ⟨rfl, rfl⟩ (by decide) ⟨Nat.zero_le _, Nat.zero_le _⟩ rfl (Nat.le_of_ble_eq_true rfl) dX5_inField_17 (fun H locs hw => ?_)
      obtain ⟨s17, es17, hw⟩ := nmD hw
      refine lv_iconst (v := 4) K.1 K.2.1 dX5_inField_20 (by decide) ?_
      have eq9 : f_X5_inField σ0 x1 = (s17, 4) := (by subst es17; exact (Eq.trans (if_neg c3) (Eq.trans (if_neg c9) rfl)))
      exact ret (congrArg (fun z => pdW a cA z.1) eq9) (congrArg (fun z => z.2) eq9) hw dX5_inField_21
def f_X5_behindFamily (σ0 : PS) (x1 : Int32) : PS × Int32 := let s6 : PS := f_X5_beginField (upS σ0 6 3); (if x1 < 96 then let s30 : PS := (f_X5_inField s6 x1).1; (s30, (f_X5_inField s6 x1).2) else (if 126 < x1 then let s30 : PS := (f_X5_inField s6 x1).1; (s30, (f_X5_inField s6 x1).2) else ((upS s6 1 x1), 0)))
theorem bx_X5_behindFamily {σ0 : PS} {x1 : Int32} (hI : Bx σ0) : Bx (f_X5_behindFamily σ0 x1).1 := (bxI2 (fun c12 => (bx_X5_inField (bx_X5_beginField (bxS_6 hI)))) (fun c12 => (bxI2 (fun c18 => (bx_X5_inField (bx_X5_beginField (bxS_6 hI)))) (fun c18 => (bxS_1 (bx_X5_beginField (bxS_6 hI)))))))
abbrev rm_X5_behindFamily : Room := { frames := 4, cells := 0, slots := 0, locals := 84 }
set_option maxHeartbeats 4000000 in
set_option maxRecDepth 100000 in
theorem c_X5_behindFamily (l : Launch) (D : va_G) (a : Nat → Nat) (cA : Nat → ClassId) (σ0 : PS) (x1 : Int32) : CI l yX5_behindFamily cX5_behindFamily 2 .int rm_X5_behindFamily D (pdT cA) [.ref (a 1), .int x1] (pdW a cA σ0) (pdW a cA (f_X5_behindFamily σ0 x1).1) (f_X5_behindFamily σ0 x1).2 := by
  refine en_i (by decide +kernel) (Nat.le_of_ble_eq_true rfl) rfl ?_
  intro p e s m args below meth c A ls Q K hw hl ret
  have hl : lv_has ls 2 [(0, .ref (a 1)), (1, .int x1)] := hl
  refine lv_aload_n K.1 K.2.1 dX5_behindFamily_0 rfl (lv_at hl 0 rfl) ?_
  refine lv_iconst (v := 3) K.1 K.2.1 dX5_behindFamily_1 (by decide) ?_
  refine pD_1_6 K hw kf_X5_9 dX5_behindFamily_2 (fun H locs hw => ?_)
  refine lv_aload_n K.1 K.2.1 dX5_behindFamily_5 rfl (lv_at hl 0 rfl) ?_
  refine caV K hw (c_X5_beginField l D a cA _) hl.1 (tt_V km_X5_41 kI_X5_beginField ks_X5_beginField ki_X5 kC_X5_beginField) 1 (ci := 5) rfl rfl rfl (na := 0) rfl (by decide +kernel) ⟨rfl, rfl⟩ (by decide) ⟨Nat.zero_le _, Nat.zero_le _⟩ rfl (Nat.le_of_ble_eq_true rfl) dX5_behindFamily_6 (fun H locs hw => ?_)
  obtain ⟨s6, es6, hw⟩ := nmD hw
  refine lv_iload_n K.1 K.2.1 dX5_behindFamily_9 rfl (lv_at hl 1 rfl) ?_
  refine lv_bipush (v := 96) K.1 K.2.1 dX5_behindFamily_10 (by decide) ?_
  refine lv_icmp_lt (tgt := 28) K.1 K.2.1 dX5_behindFamily_12 (by decide) (fun c12 => ?_) (fun c12 => ?_)
  · refine lv_aload_n K.1 K.2.1 dX5_behindFamily_28 rfl (lv_at hl 0 rfl) ?_
    refine lv_iload_n K.1 K.2.1 dX5_behindFamily_29 rfl (lv_at hl 1 rfl) ?_
    refine caI K hw (c_X5_inField l D a cA _ _) hl.1 (tt_V km_X5_38 kI_X5_inField ks_X5_inField ki_X5 kC_X5_inField) 1 (ci := 5) rfl rfl rfl (na := 1) rfl (by decide +kernel) ⟨rfl, rfl⟩ (by decide) ⟨Nat.zero_le _, Nat.zero_le _⟩ rfl (Nat.le_of_ble_eq_true rfl) dX5_behindFamily_30 (fun H locs hw => ?_)
    obtain ⟨s30, es30, hw⟩ := nmD hw
    have eq9 : f_X5_behindFamily σ0 x1 = (s30, (f_X5_inField s6 x1).2) := (by subst es30 es6; exact (Eq.trans (if_pos c12) rfl))
    exact ret (congrArg (fun z => pdW a cA z.1) eq9) (congrArg (fun z => z.2) eq9) hw dX5_behindFamily_33
  · refine lv_iload_n K.1 K.2.1 dX5_behindFamily_15 rfl (lv_at hl 1 rfl) ?_
    refine lv_bipush (v := 126) K.1 K.2.1 dX5_behindFamily_16 (by decide) ?_
    refine lv_icmp_gt (tgt := 28) K.1 K.2.1 dX5_behindFamily_18 (by decide) (fun c18 => ?_) (fun c18 => ?_)
    · refine lv_aload_n K.1 K.2.1 dX5_behindFamily_28 rfl (lv_at hl 0 rfl) ?_
      refine lv_iload_n K.1 K.2.1 dX5_behindFamily_29 rfl (lv_at hl 1 rfl) ?_
      refine caI K hw (c_X5_inField l D a cA _ _) hl.1 (tt_V km_X5_38 kI_X5_inField ks_X5_inField ki_X5 kC_X5_inField) 1 (ci := 5) rfl rfl rfl (na := 1) rfl (by decide +kernel) ⟨rfl, rfl⟩ (by decide) ⟨Nat.zero_le _, Nat.zero_le _⟩ rfl (Nat.le_of_ble_eq_true rfl) dX5_behindFamily_30 (fun H locs hw => ?_)
      obtain ⟨s30, es30, hw⟩ := nmD hw
      have eq9 : f_X5_behindFamily σ0 x1 = (s30, (f_X5_inField s6 x1).2) := (by subst es30 es6; exact (Eq.trans (if_neg c12) (Eq.trans (if_pos c18) rfl)))
      exact ret (congrArg (fun z => pdW a cA z.1) eq9) (congrArg (fun z => z.2) eq9) hw dX5_behindFamily_33
    · refine lv_aload_n K.1 K.2.1 dX5_behindFamily_21 rfl (lv_at hl 0 rfl) ?_
      refine lv_iload_n K.1 K.2.1 dX5_behindFamily_22 rfl (lv_at hl 1 rfl) ?_
      refine pD_1_1 K hw kf_X5_21 dX5_behindFamily_23 (fun H locs hw => ?_)
      refine lv_iconst (v := 0) K.1 K.2.1 dX5_behindFamily_26 (by decide) ?_
      have eq9 : f_X5_behindFamily σ0 x1 = ((upS s6 1 x1), 0) := (by subst es6; exact (Eq.trans (if_neg c12) (Eq.trans (if_neg c18) rfl)))
      exact ret (congrArg (fun z => pdW a cA z.1) eq9) (congrArg (fun z => z.2) eq9) hw dX5_behindFamily_27
def g_X5_behindEsc_19 (σ : PS) (y1 : Int32) : PS × Int32 := (if y1 < 33 then ((upS σ 6 0), 0) else (if 47 < y1 then ((upS σ 6 0), 0) else ((upS (upS (upS σ 0 y1) 1 0) 6 2), 0)))
def f_X5_behindEsc (σ0 : PS) (x1 : Int32) : PS × Int32 := (if x1 < 48 then (g_X5_behindEsc_19 σ0 x1) else (if 126 < x1 then (g_X5_behindEsc_19 σ0 x1) else ((upS σ0 6 0), 3)))
theorem bx_g_X5_behindEsc_19 {σ : PS} {y1 : Int32} (hI : Bx σ) : Bx (g_X5_behindEsc_19 σ y1).1 := (bxI2 (fun c22 => (bxS_6 hI)) (fun c22 => (bxI2 (fun c28 => (bxS_6 hI)) (fun c28 => (bxS_6 (bxS_1 (bxS_0 hI)))))))
theorem bx_X5_behindEsc {σ0 : PS} {x1 : Int32} (hI : Bx σ0) : Bx (f_X5_behindEsc σ0 x1).1 := (bxI2 (fun c3 => (bx_g_X5_behindEsc_19 hI)) (fun c3 => (bxI2 (fun c9 => (bx_g_X5_behindEsc_19 hI)) (fun c9 => (bxS_6 hI)))))
abbrev rm_X5_behindEsc : Room := { frames := 0, cells := 0, slots := 0, locals := 0 }
set_option maxHeartbeats 4000000 in
set_option maxRecDepth 100000 in
theorem c_X5_behindEsc (l : Launch) (D : va_G) (a : Nat → Nat) (cA : Nat → ClassId) (σ0 : PS) (x1 : Int32) : CI l yX5_behindEsc cX5_behindEsc 2 .int rm_X5_behindEsc D (pdT cA) [.ref (a 1), .int x1] (pdW a cA σ0) (pdW a cA (f_X5_behindEsc σ0 x1).1) (f_X5_behindEsc σ0 x1).2 := by
  refine en_i (by decide +kernel) (Nat.le_of_ble_eq_true rfl) rfl ?_
  intro p e s m args below meth c A ls Q K hw hl ret
  have hl : lv_has ls 2 [(0, .ref (a 1)), (1, .int x1)] := hl
  have J19 : ∀ (σ : PS) (y1 : Int32) (H : Heap) (locs : List Loc) (ls : Array Slot), WD D A s.heap (pdW a cA σ) H locs → lv_has ls 2 [(0, .ref (a 1)), (1, .int y1)] → f_X5_behindEsc σ0 x1 = g_X5_behindEsc_19 σ y1 → W p l e rm_X5_behindEsc s m args below meth c H locs 0 0 Q (F0 m 19 ls []) := by
    intro σ y1 H locs ls hw hl e0
    refine lv_iload_n K.1 K.2.1 dX5_behindEsc_19 rfl (lv_at hl 1 rfl) ?_
    refine lv_bipush (v := 33) K.1 K.2.1 dX5_behindEsc_20 (by decide) ?_
    refine lv_icmp_lt (tgt := 48) K.1 K.2.1 dX5_behindEsc_22 (by decide) (fun c22 => ?_) (fun c22 => ?_)
    · refine lv_aload_n K.1 K.2.1 dX5_behindEsc_48 rfl (lv_at hl 0 rfl) ?_
      refine lv_iconst (v := 0) K.1 K.2.1 dX5_behindEsc_49 (by decide) ?_
      refine pD_1_6 K hw kf_X5_9 dX5_behindEsc_50 (fun H locs hw => ?_)
      refine lv_iconst (v := 0) K.1 K.2.1 dX5_behindEsc_53 (by decide) ?_
      have eq9 : f_X5_behindEsc σ0 x1 = ((upS σ 6 0), 0) := (by exact (Eq.trans e0 (Eq.trans (if_pos c22) rfl)))
      exact ret (congrArg (fun z => pdW a cA z.1) eq9) (congrArg (fun z => z.2) eq9) hw dX5_behindEsc_54
    · refine lv_iload_n K.1 K.2.1 dX5_behindEsc_25 rfl (lv_at hl 1 rfl) ?_
      refine lv_bipush (v := 47) K.1 K.2.1 dX5_behindEsc_26 (by decide) ?_
      refine lv_icmp_gt (tgt := 48) K.1 K.2.1 dX5_behindEsc_28 (by decide) (fun c28 => ?_) (fun c28 => ?_)
      · refine lv_aload_n K.1 K.2.1 dX5_behindEsc_48 rfl (lv_at hl 0 rfl) ?_
        refine lv_iconst (v := 0) K.1 K.2.1 dX5_behindEsc_49 (by decide) ?_
        refine pD_1_6 K hw kf_X5_9 dX5_behindEsc_50 (fun H locs hw => ?_)
        refine lv_iconst (v := 0) K.1 K.2.1 dX5_behindEsc_53 (by decide) ?_
        have eq9 : f_X5_behindEsc σ0 x1 = ((upS σ 6 0), 0) := (by exact (Eq.trans e0 (Eq.trans (if_neg c22) (Eq.trans (if_pos c28) rfl))))
        exact ret (congrArg (fun z => pdW a cA z.1) eq9) (congrArg (fun z => z.2) eq9) hw dX5_behindEsc_54
      · refine lv_aload_n K.1 K.2.1 dX5_behindEsc_31 rfl (lv_at hl 0 rfl) ?_
        refine lv_iload_n K.1 K.2.1 dX5_behindEsc_32 rfl (lv_at hl 1 rfl) ?_
        refine pD_1_0 K hw kf_X5_18 dX5_behindEsc_33 (fun H locs hw => ?_)
        refine lv_aload_n K.1 K.2.1 dX5_behindEsc_36 rfl (lv_at hl 0 rfl) ?_
        refine lv_iconst (v := 0) K.1 K.2.1 dX5_behindEsc_37 (by decide) ?_
        refine pD_1_1 K hw kf_X5_21 dX5_behindEsc_38 (fun H locs hw => ?_)
        refine lv_aload_n K.1 K.2.1 dX5_behindEsc_41 rfl (lv_at hl 0 rfl) ?_
        refine lv_iconst (v := 2) K.1 K.2.1 dX5_behindEsc_42 (by decide) ?_
        refine pD_1_6 K hw kf_X5_9 dX5_behindEsc_43 (fun H locs hw => ?_)
        refine lv_iconst (v := 0) K.1 K.2.1 dX5_behindEsc_46 (by decide) ?_
        have eq9 : f_X5_behindEsc σ0 x1 = ((upS (upS (upS σ 0 y1) 1 0) 6 2), 0) := (by exact (Eq.trans e0 (Eq.trans (if_neg c22) (Eq.trans (if_neg c28) rfl))))
        exact ret (congrArg (fun z => pdW a cA z.1) eq9) (congrArg (fun z => z.2) eq9) hw dX5_behindEsc_47
  refine lv_iload_n K.1 K.2.1 dX5_behindEsc_0 rfl (lv_at hl 1 rfl) ?_
  refine lv_bipush (v := 48) K.1 K.2.1 dX5_behindEsc_1 (by decide) ?_
  refine lv_icmp_lt (tgt := 19) K.1 K.2.1 dX5_behindEsc_3 (by decide) (fun c3 => ?_) (fun c3 => ?_)
  · exact J19 _ _ _ _ _ hw (lv_sub hl [0, 1] rfl) (by exact (Eq.trans (if_pos c3) rfl))
  · refine lv_iload_n K.1 K.2.1 dX5_behindEsc_6 rfl (lv_at hl 1 rfl) ?_
    refine lv_bipush (v := 126) K.1 K.2.1 dX5_behindEsc_7 (by decide) ?_
    refine lv_icmp_gt (tgt := 19) K.1 K.2.1 dX5_behindEsc_9 (by decide) (fun c9 => ?_) (fun c9 => ?_)
    · exact J19 _ _ _ _ _ hw (lv_sub hl [0, 1] rfl) (by exact (Eq.trans (if_neg c3) (Eq.trans (if_pos c9) rfl)))
    · refine lv_aload_n K.1 K.2.1 dX5_behindEsc_12 rfl (lv_at hl 0 rfl) ?_
      refine lv_iconst (v := 0) K.1 K.2.1 dX5_behindEsc_13 (by decide) ?_
      refine pD_1_6 K hw kf_X5_9 dX5_behindEsc_14 (fun H locs hw => ?_)
      refine lv_iconst (v := 3) K.1 K.2.1 dX5_behindEsc_17 (by decide) ?_
      have eq9 : f_X5_behindEsc σ0 x1 = ((upS σ0 6 0), 3) := (by exact (Eq.trans (if_neg c3) (Eq.trans (if_neg c9) rfl)))
      exact ret (congrArg (fun z => pdW a cA z.1) eq9) (congrArg (fun z => z.2) eq9) hw dX5_behindEsc_18
def f_X5_accept (σ0 : PS) (x1 : Int32) : PS × Int32 := (if (σ0.1 5) ≤ 0 then (if x1 = 27 then ((upS σ0 6 1), 0) else (if (σ0.1 6) = 1 then let s74 : PS := (f_X5_behindEsc σ0 x1).1; (s74, (f_X5_behindEsc σ0 x1).2) else (if (σ0.1 6) = 2 then let s80 : PS := (f_X5_behindFamily σ0 x1).1; (s80, (f_X5_behindFamily σ0 x1).2) else (if (σ0.1 6) = 3 then let s86 : PS := (f_X5_inField σ0 x1).1; (s86, (f_X5_inField σ0 x1).2) else (if x1 < 32 then (σ0, 2) else (σ0, 1)))))) else (if (f_X5_hasText (upS σ0 5 ((σ0.1 5) - 1))) = 0 then ((upS σ0 5 ((σ0.1 5) - 1)), 5) else ((upS σ0 5 ((σ0.1 5) - 1)), 1)))
theorem bx_X5_accept {σ0 : PS} {x1 : Int32} (hI : Bx σ0) : Bx (f_X5_accept σ0 x1).1 := (bxI2 (fun c4 => (bxI2 (fun c33 => (bxS_6 hI)) (fun c33 => (bxI2 (fun c47_1 => (bx_X5_behindEsc hI)) (fun c47_1 => (bxI2 (fun c47_2 => (bx_X5_behindFamily hI)) (fun c47_2 => (bxI2 (fun c47_3 => (bx_X5_inField hI)) (fun c47_3 => (bxI2 (fun c93 => hI) (fun c93 => hI))))))))))) (fun c4 => (bxI2 (fun c21 => (bxS_5 hI)) (fun c21 => (bxS_5 hI)))))
abbrev rm_X5_accept : Room := { frames := 5, cells := 0, slots := 0, locals := 105 }
set_option maxHeartbeats 4000000 in
set_option maxRecDepth 100000 in
theorem c_X5_accept (l : Launch) (D : va_G) (a : Nat → Nat) (cA : Nat → ClassId) (σ0 : PS) (x1 : Int32) : CI l yX5_accept cX5_accept 2 .int rm_X5_accept D (pdT cA) [.ref (a 1), .int x1] (pdW a cA σ0) (pdW a cA (f_X5_accept σ0 x1).1) (f_X5_accept σ0 x1).2 := by
  refine en_i (by decide +kernel) (Nat.le_of_ble_eq_true rfl) rfl ?_
  intro p e s m args below meth c A ls Q K hw hl ret
  have hl : lv_has ls 2 [(0, .ref (a 1)), (1, .int x1)] := hl
  refine lv_aload_n K.1 K.2.1 dX5_accept_0 rfl (lv_at hl 0 rfl) ?_
  refine gD_1_5 K hw kf_X5_15 dX5_accept_1 ?_
  refine lv_if_le (tgt := 30) K.1 K.2.1 dX5_accept_4 (by decide) (fun c4 => ?_) (fun c4 => ?_)
  · refine lv_iload_n K.1 K.2.1 dX5_accept_30 rfl (lv_at hl 1 rfl) ?_
    refine lv_bipush (v := 27) K.1 K.2.1 dX5_accept_31 (by decide) ?_
    refine lv_icmp_ne (tgt := 43) K.1 K.2.1 dX5_accept_33 (by decide) (fun c33 => ?_) (fun c33 => ?_)
    · refine lv_aload_n K.1 K.2.1 dX5_accept_43 rfl (lv_at hl 0 rfl) ?_
      refine gD_1_6 K hw kf_X5_9 dX5_accept_44 ?_
      refine sw_t K dX5_accept_47 (k := 1) (tgt := 72) (by decide) (by decide) (fun c47_1 => ?_) (fun c47_1 => ?_)
      · refine lv_aload_n K.1 K.2.1 dX5_accept_72 rfl (lv_at hl 0 rfl) ?_
        refine lv_iload_n K.1 K.2.1 dX5_accept_73 rfl (lv_at hl 1 rfl) ?_
        refine caI K hw (c_X5_behindEsc l D a cA _ _) hl.1 (tt_V km_X5_31 kI_X5_behindEsc ks_X5_behindEsc ki_X5 kC_X5_behindEsc) 1 (ci := 5) rfl rfl rfl (na := 1) rfl (by decide +kernel) ⟨rfl, rfl⟩ (by decide) ⟨Nat.zero_le _, Nat.zero_le _⟩ rfl (Nat.le_of_ble_eq_true rfl) dX5_accept_74 (fun H locs hw => ?_)
        obtain ⟨s74, es74, hw⟩ := nmD hw
        have eq9 : f_X5_accept σ0 x1 = (s74, (f_X5_behindEsc σ0 x1).2) := (by subst es74; exact (Eq.trans (if_pos c4) (Eq.trans (if_neg c33) (Eq.trans (if_pos c47_1) rfl))))
        exact ret (congrArg (fun z => pdW a cA z.1) eq9) (congrArg (fun z => z.2) eq9) hw dX5_accept_77
      · refine sw_t K dX5_accept_47 (k := 2) (tgt := 78) (by decide) (by decide) (fun c47_2 => ?_) (fun c47_2 => ?_)
        · refine lv_aload_n K.1 K.2.1 dX5_accept_78 rfl (lv_at hl 0 rfl) ?_
          refine lv_iload_n K.1 K.2.1 dX5_accept_79 rfl (lv_at hl 1 rfl) ?_
          refine caI K hw (c_X5_behindFamily l D a cA _ _) hl.1 (tt_V km_X5_35 kI_X5_behindFamily ks_X5_behindFamily ki_X5 kC_X5_behindFamily) 1 (ci := 5) rfl rfl rfl (na := 1) rfl (by decide +kernel) ⟨rfl, rfl⟩ (by decide) ⟨Nat.zero_le _, Nat.zero_le _⟩ rfl (Nat.le_of_ble_eq_true rfl) dX5_accept_80 (fun H locs hw => ?_)
          obtain ⟨s80, es80, hw⟩ := nmD hw
          have eq9 : f_X5_accept σ0 x1 = (s80, (f_X5_behindFamily σ0 x1).2) := (by subst es80; exact (Eq.trans (if_pos c4) (Eq.trans (if_neg c33) (Eq.trans (if_neg c47_1) (Eq.trans (if_pos c47_2) rfl)))))
          exact ret (congrArg (fun z => pdW a cA z.1) eq9) (congrArg (fun z => z.2) eq9) hw dX5_accept_83
        · refine sw_t K dX5_accept_47 (k := 3) (tgt := 84) (by decide) (by decide) (fun c47_3 => ?_) (fun c47_3 => ?_)
          · refine lv_aload_n K.1 K.2.1 dX5_accept_84 rfl (lv_at hl 0 rfl) ?_
            refine lv_iload_n K.1 K.2.1 dX5_accept_85 rfl (lv_at hl 1 rfl) ?_
            refine caI K hw (c_X5_inField l D a cA _ _) hl.1 (tt_V km_X5_38 kI_X5_inField ks_X5_inField ki_X5 kC_X5_inField) 1 (ci := 5) rfl rfl rfl (na := 1) rfl (by decide +kernel) ⟨rfl, rfl⟩ (by decide) ⟨Nat.zero_le _, Nat.zero_le _⟩ rfl (Nat.le_of_ble_eq_true rfl) dX5_accept_86 (fun H locs hw => ?_)
            obtain ⟨s86, es86, hw⟩ := nmD hw
            have eq9 : f_X5_accept σ0 x1 = (s86, (f_X5_inField σ0 x1).2) := (by subst es86; exact (Eq.trans (if_pos c4) (Eq.trans (if_neg c33) (Eq.trans (if_neg c47_1) (Eq.trans (if_neg c47_2) (Eq.trans (if_pos c47_3) rfl))))))
            exact ret (congrArg (fun z => pdW a cA z.1) eq9) (congrArg (fun z => z.2) eq9) hw dX5_accept_89
          · refine lv_tableOut (tgt := 90) K.1 K.2.1 dX5_accept_47 (by have h0 := lv_neT c47_1 (a := 1) rfl; have h1 := lv_neT c47_2 (a := 2) rfl; have h2 := lv_neT c47_3 (a := 3) rfl; omega) (by decide) ?_
            refine lv_iload_n K.1 K.2.1 dX5_accept_90 rfl (lv_at hl 1 rfl) ?_
            refine lv_bipush (v := 32) K.1 K.2.1 dX5_accept_91 (by decide) ?_
            refine lv_icmp_lt (tgt := 100) K.1 K.2.1 dX5_accept_93 (by decide) (fun c93 => ?_) (fun c93 => ?_)
            · refine lv_iconst (v := 2) K.1 K.2.1 dX5_accept_100 (by decide) ?_
              have eq9 : f_X5_accept σ0 x1 = (σ0, 2) := (by exact (Eq.trans (if_pos c4) (Eq.trans (if_neg c33) (Eq.trans (if_neg c47_1) (Eq.trans (if_neg c47_2) (Eq.trans (if_neg c47_3) (Eq.trans (if_pos c93) rfl)))))))
              exact ret (congrArg (fun z => pdW a cA z.1) eq9) (congrArg (fun z => z.2) eq9) hw dX5_accept_101
            · refine lv_iconst (v := 1) K.1 K.2.1 dX5_accept_96 (by decide) ?_
              refine lv_goto (tgt := 101) K.1 K.2.1 dX5_accept_97 (by decide) ?_
              have eq9 : f_X5_accept σ0 x1 = (σ0, 1) := (by exact (Eq.trans (if_pos c4) (Eq.trans (if_neg c33) (Eq.trans (if_neg c47_1) (Eq.trans (if_neg c47_2) (Eq.trans (if_neg c47_3) (Eq.trans (if_neg c93) rfl)))))))
              exact ret (congrArg (fun z => pdW a cA z.1) eq9) (congrArg (fun z => z.2) eq9) hw dX5_accept_101
    · refine lv_aload_n K.1 K.2.1 dX5_accept_36 rfl (lv_at hl 0 rfl) ?_
      refine lv_iconst (v := 1) K.1 K.2.1 dX5_accept_37 (by decide) ?_
      refine pD_1_6 K hw kf_X5_9 dX5_accept_38 (fun H locs hw => ?_)
      refine lv_iconst (v := 0) K.1 K.2.1 dX5_accept_41 (by decide) ?_
      have eq9 : f_X5_accept σ0 x1 = ((upS σ0 6 1), 0) := (by exact (Eq.trans (if_pos c4) (Eq.trans (if_pos c33) rfl)))
      exact ret (congrArg (fun z => pdW a cA z.1) eq9) (congrArg (fun z => z.2) eq9) hw dX5_accept_42
  · refine lv_aload_n K.1 K.2.1 dX5_accept_7 rfl (lv_at hl 0 rfl) ?_
    refine lv_dup K.1 K.2.1 dX5_accept_8 rfl ?_
    refine gD_1_5 K hw kf_X5_15 dX5_accept_9 ?_
    refine lv_iconst (v := 1) K.1 K.2.1 dX5_accept_12 (by decide) ?_
    refine lv_isub K.1 K.2.1 dX5_accept_13 ?_
    refine pD_1_5 K hw kf_X5_15 dX5_accept_14 (fun H locs hw => ?_)
    refine lv_aload_n K.1 K.2.1 dX5_accept_17 rfl (lv_at hl 0 rfl) ?_
    refine caI K hw (c_X5_hasText l D a cA _) hl.1 (tt_V km_X5_27 kI_X5_hasText ks_X5_hasText ki_X5 kC_X5_hasText) 1 (ci := 5) rfl rfl rfl (na := 0) rfl (by decide +kernel) ⟨rfl, rfl⟩ (by decide) ⟨Nat.zero_le _, Nat.zero_le _⟩ rfl (Nat.le_of_ble_eq_true rfl) dX5_accept_18 (fun H locs hw => ?_)
    refine lv_if_eq (tgt := 28) K.1 K.2.1 dX5_accept_21 (by decide) (fun c21 => ?_) (fun c21 => ?_)
    · refine lv_iconst (v := 5) K.1 K.2.1 dX5_accept_28 (by decide) ?_
      have eq9 : f_X5_accept σ0 x1 = ((upS σ0 5 ((σ0.1 5) - 1)), 5) := (by exact (Eq.trans (if_neg c4) (Eq.trans (if_pos c21) rfl)))
      exact ret (congrArg (fun z => pdW a cA z.1) eq9) (congrArg (fun z => z.2) eq9) hw dX5_accept_29
    · refine lv_iconst (v := 1) K.1 K.2.1 dX5_accept_24 (by decide) ?_
      refine lv_goto (tgt := 29) K.1 K.2.1 dX5_accept_25 (by decide) ?_
      have eq9 : f_X5_accept σ0 x1 = ((upS σ0 5 ((σ0.1 5) - 1)), 1) := (by exact (Eq.trans (if_neg c4) (Eq.trans (if_neg c21) rfl)))
      exact ret (congrArg (fun z => pdW a cA z.1) eq9) (congrArg (fun z => z.2) eq9) hw dX5_accept_29
