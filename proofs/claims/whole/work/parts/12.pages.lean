/-! floorMod by 40 lies in 0 .. 39 -/
theorem xorNeg (x : Int32) : (x ^^^ 40 < 0) ↔ x < 0 := by
  rw [Int32.lt_iff_toBitVec_slt, Int32.lt_iff_toBitVec_slt]
  show (x.toBitVec ^^^ 40#32).slt 0#32 = true ↔ x.toBitVec.slt 0#32 = true
  rw [BitVec.slt_zero_eq_msb, BitVec.slt_zero_eq_msb, BitVec.msb_xor]
  have : (40#32).msb = false := by decide
  rw [this, Bool.xor_false]
theorem fm40 (x : Int32) : 0 ≤ (f_J9_floorMod_7cf53 x 40).toInt ∧ (f_J9_floorMod_7cf53 x 40).toInt ≤ 39 := by
  have hm : (x - x / 40 * 40).toInt = x.toInt.tmod 40 := rem_toInt x 40
  have h40 : (40 : Int32).toInt = 40 := rfl
  have h0 : (0 : Int32).toInt = 0 := rfl
  have hb : -40 < x.toInt.tmod 40 ∧ x.toInt.tmod 40 < 40 := tmod_bounds (by decide)
  by_cases hx : x < 0
  · have hx' : x.toInt < 0 := by rw [Int32.lt_iff_toInt_lt] at hx; exact hx
    have hle : x.toInt.tmod 40 ≤ 0 := by
      have e : x.toInt.tmod 40 = -((-x.toInt).tmod 40) := by rw [Int.neg_tmod, Int.neg_neg]
      have := Int.tmod_nonneg 40 (show 0 ≤ -x.toInt by omega)
      omega
    by_cases hz : x - x / 40 * 40 = 0
    · have e : f_J9_floorMod_7cf53 x 40 = x - x / 40 * 40 := by
        simp only [f_J9_floorMod_7cf53]
        repeat' split
        all_goals first | rfl | simp_all
      rw [e, hz]; decide
    · have hz' : x.toInt.tmod 40 ≠ 0 := fun q => hz (Int32.toInt_inj.mp (by rw [hm, q]; rfl))
      have e : f_J9_floorMod_7cf53 x 40 = x - x / 40 * 40 + 40 := by
        have hx2 := (xorNeg x).mpr hx
        simp only [f_J9_floorMod_7cf53]
        repeat' split
        all_goals first | rfl | (exfalso; rename_i h; rw [Int32.le_iff_toInt_le] at h; rw [Int32.lt_iff_toInt_lt] at hx2; omega) | simp_all
      rw [e, i32add (by omega) (by omega), hm]
      omega
  · have hx' : 0 ≤ x.toInt := by rw [Int32.lt_iff_toInt_lt] at hx; omega
    have hge := Int.tmod_nonneg 40 hx'
    have hx2 : ¬ x ^^^ 40 < 0 := fun q => hx ((xorNeg x).mp q)
    have e : f_J9_floorMod_7cf53 x 40 = x - x / 40 * 40 := by
      simp only [f_J9_floorMod_7cf53]
      repeat' split
      all_goals first | rfl | (exfalso; rename_i h1 h2; rw [Int32.lt_iff_toInt_lt] at hx2; rw [Int32.le_iff_toInt_le] at h1; omega) | simp_all
    rw [e, hm]
    omega
theorem fmI {x k : Int32} (h : 0 ≤ k.toInt ∧ k.toInt ≤ 3) : vp_in (f_J9_floorMod_7cf53 x 40 * 4 + k) 160 := by
  have hf := fm40 x
  have h4 : (4 : Int32).toInt = 4 := rfl
  have h2 : (f_J9_floorMod_7cf53 x 40 * 4).toInt = (f_J9_floorMod_7cf53 x 40).toInt * 4 := by rw [i32mul (by rw [h4]; omega) (by rw [h4]; omega), h4]
  refine vp_in_iff.mpr ?_
  rw [i32add (by omega) (by omega), h2]
  omega
theorem fmZ {x : Int32} : vp_in (f_J9_floorMod_7cf53 x 40 * 4) 160 := by
  have hf := fm40 x
  have h4 : (4 : Int32).toInt = 4 := rfl
  refine vp_in_iff.mpr ?_
  rw [i32mul (by rw [h4]; omega) (by rw [h4]; omega), h4]
  omega
def f_X0_add (σ0 : PS) (x1 : Int32) : PS := let x3_11 : Int32 := ((f_J9_floorMod_7cf53 (σ0.1 34) 40) * 4); (upS (upA (upA (upA (upA σ0 4 (Int32.toNatClampNeg x3_11) x1) 4 (Int32.toNatClampNeg (x3_11 + 1)) (σ0.1 13)) 4 (Int32.toNatClampNeg (x3_11 + 2)) (σ0.1 14)) 4 (Int32.toNatClampNeg (x3_11 + 3)) (σ0.1 15)) 34 ((σ0.1 34) + 1))
theorem bx_X0_add {σ0 : PS} {x1 : Int32} (hI : Bx σ0) : Bx (f_X0_add σ0 x1) := (bxS_34 (bxA (bxA (bxA (bxA hI)))))
abbrev rm_X0_add : Room := { frames := 1, cells := 0, slots := 0, locals := 22 }
set_option maxHeartbeats 4000000 in
set_option maxRecDepth 100000 in
theorem c_X0_add (l : Launch) (D : va_G) (a : Nat → Nat) (cA : Nat → ClassId) (σ0 : PS) (x1 : Int32) : CV l yX0_add cX0_add 4 rm_X0_add D (pdT cA) [.ref (a 5), .int x1, .ref (a 2)] (pdW a cA σ0) (pdW a cA (f_X0_add σ0 x1)) := by
  refine en_v (by decide +kernel) (Nat.le_of_ble_eq_true rfl) ?_
  intro p e s m args below meth c A ls Q K hw hl ret
  have hl : lv_has ls 4 [(0, .ref (a 5)), (1, .int x1), (2, .ref (a 2))] := hl
  refine lv_aload_n K.1 K.2.1 dX0_add_0 rfl (lv_at hl 0 rfl) ?_
  refine gD_5_1 K hw kf_X0_13 dX0_add_1 ?_
  refine lv_bipush (v := 40) K.1 K.2.1 dX0_add_4 (by decide) ?_
  refine caS K hw (c_J9_floorMod_7cf53 l D a cA _ _ _ (by decide)) hl.1 km_X0_17 kS_J9_floorMod_7cf53 ki_J9 kC_J9_floorMod_7cf53 (na := 2) rfl (by decide +kernel) ⟨rfl, rfl⟩ (by decide) ⟨Nat.zero_le _, Nat.zero_le _⟩ rfl (Nat.le_of_ble_eq_true rfl) dX0_add_6 (fun H locs hw => ?_)
  refine lv_iconst (v := 4) K.1 K.2.1 dX0_add_9 (by decide) ?_
  refine lv_imul K.1 K.2.1 dX0_add_10 ?_
  refine lv_topi (fun x3_11 ex3_11 => ?_)
  refine lv_istore_n (lv' := [(3, .int x3_11), (0, .ref (a 5)), (1, .int x1), (2, .ref (a 2))]) K.1 K.2.1 dX0_add_11 rfl hl (by decide) rfl (fun ls hl => ?_)
  refine lv_aload_n K.1 K.2.1 dX0_add_12 rfl (lv_at hl 1 rfl) ?_
  refine gD_5_0 K hw kf_X0_9 dX0_add_13 ?_
  refine lv_iload_n K.1 K.2.1 dX0_add_16 rfl (lv_at hl 0 rfl) ?_
  refine lv_iload_n K.1 K.2.1 dX0_add_17 rfl (lv_at hl 2 rfl) ?_
  refine sD_11 K hw (by rw [ex3_11]; exact fmZ) rfl dX0_add_18 (fun H locs hw => ?_)
  refine lv_aload_n K.1 K.2.1 dX0_add_19 rfl (lv_at hl 1 rfl) ?_
  refine gD_5_0 K hw kf_X0_9 dX0_add_20 ?_
  refine lv_iload_n K.1 K.2.1 dX0_add_23 rfl (lv_at hl 0 rfl) ?_
  refine lv_iconst (v := 1) K.1 K.2.1 dX0_add_24 (by decide) ?_
  refine lv_iadd K.1 K.2.1 dX0_add_25 ?_
  refine lv_aload_n K.1 K.2.1 dX0_add_26 rfl (lv_at hl 3 rfl) ?_
  refine gD_2_0 K hw kf_X0_23 dX0_add_27 ?_
  refine sD_11 K hw (by rw [ex3_11]; exact fmI (by decide)) rfl dX0_add_30 (fun H locs hw => ?_)
  refine lv_aload_n K.1 K.2.1 dX0_add_31 rfl (lv_at hl 1 rfl) ?_
  refine gD_5_0 K hw kf_X0_9 dX0_add_32 ?_
  refine lv_iload_n K.1 K.2.1 dX0_add_35 rfl (lv_at hl 0 rfl) ?_
  refine lv_iconst (v := 2) K.1 K.2.1 dX0_add_36 (by decide) ?_
  refine lv_iadd K.1 K.2.1 dX0_add_37 ?_
  refine lv_aload_n K.1 K.2.1 dX0_add_38 rfl (lv_at hl 3 rfl) ?_
  refine gD_2_1 K hw kf_X0_28 dX0_add_39 ?_
  refine sD_11 K hw (by rw [ex3_11]; exact fmI (by decide)) rfl dX0_add_42 (fun H locs hw => ?_)
  refine lv_aload_n K.1 K.2.1 dX0_add_43 rfl (lv_at hl 1 rfl) ?_
  refine gD_5_0 K hw kf_X0_9 dX0_add_44 ?_
  refine lv_iload_n K.1 K.2.1 dX0_add_47 rfl (lv_at hl 0 rfl) ?_
  refine lv_iconst (v := 3) K.1 K.2.1 dX0_add_48 (by decide) ?_
  refine lv_iadd K.1 K.2.1 dX0_add_49 ?_
  refine lv_aload_n K.1 K.2.1 dX0_add_50 rfl (lv_at hl 3 rfl) ?_
  refine gD_2_2 K hw kf_X0_31 dX0_add_51 ?_
  refine sD_11 K hw (by rw [ex3_11]; exact fmI (by decide)) rfl dX0_add_54 (fun H locs hw => ?_)
  refine lv_aload_n K.1 K.2.1 dX0_add_55 rfl (lv_at hl 1 rfl) ?_
  refine lv_dup K.1 K.2.1 dX0_add_56 rfl ?_
  refine gD_5_1 K hw kf_X0_13 dX0_add_57 ?_
  refine lv_iconst (v := 1) K.1 K.2.1 dX0_add_60 (by decide) ?_
  refine lv_iadd K.1 K.2.1 dX0_add_61 ?_
  refine pD_5_1 K hw kf_X0_13 dX0_add_62 (fun H locs hw => ?_)
  exact ret (congrArg (pdW a cA) (by subst ex3_11; exact rfl)) hw dX0_add_65
def f_X0_partOf (σ0 : PS) (x1 : Int32) (x2 : Int32) : Int32 := (σ0.2.1 4 (Int32.toNatClampNeg (((f_J9_floorMod_7cf53 x1 40) * 4) + x2)))
abbrev rm_X0_partOf : Room := { frames := 1, cells := 0, slots := 0, locals := 22 }
set_option maxHeartbeats 4000000 in
set_option maxRecDepth 100000 in
theorem c_X0_partOf (l : Launch) (D : va_G) (a : Nat → Nat) (cA : Nat → ClassId) (σ0 : PS) (x1 : Int32) (x2 : Int32) (h2 : 0 ≤ x2.toInt ∧ x2.toInt ≤ 3) : CI l yX0_partOf cX0_partOf 3 .int rm_X0_partOf D (pdT cA) [.ref (a 5), .int x1, .int x2] (pdW a cA σ0) (pdW a cA σ0) (f_X0_partOf σ0 x1 x2) := by
  refine en_i (by decide +kernel) (Nat.le_of_ble_eq_true rfl) rfl ?_
  intro p e s m args below meth c A ls Q K hw hl ret
  have hl : lv_has ls 3 [(0, .ref (a 5)), (1, .int x1), (2, .int x2)] := hl
  refine lv_aload_n K.1 K.2.1 dX0_partOf_0 rfl (lv_at hl 0 rfl) ?_
  refine gD_5_0 K hw kf_X0_9 dX0_partOf_1 ?_
  refine lv_iload_n K.1 K.2.1 dX0_partOf_4 rfl (lv_at hl 1 rfl) ?_
  refine lv_bipush (v := 40) K.1 K.2.1 dX0_partOf_5 (by decide) ?_
  refine caS K hw (c_J9_floorMod_7cf53 l D a cA _ _ _ (by decide)) hl.1 km_X0_17 kS_J9_floorMod_7cf53 ki_J9 kC_J9_floorMod_7cf53 (na := 2) rfl (by decide +kernel) ⟨rfl, rfl⟩ (by decide) ⟨Nat.zero_le _, Nat.zero_le _⟩ rfl (Nat.le_of_ble_eq_true rfl) dX0_partOf_7 (fun H locs hw => ?_)
  refine lv_iconst (v := 4) K.1 K.2.1 dX0_partOf_10 (by decide) ?_
  refine lv_imul K.1 K.2.1 dX0_partOf_11 ?_
  refine lv_iload_n K.1 K.2.1 dX0_partOf_12 rfl (lv_at hl 2 rfl) ?_
  refine lv_iadd K.1 K.2.1 dX0_partOf_13 ?_
  refine lD_11 K hw (fmI h2) rfl dX0_partOf_14 ?_
  exact ret rfl (by exact rfl) hw dX0_partOf_15
