/-! side conditions of PageDesk's arrays and boxes -/
theorem inc1 {v N : Int32} {b : Int} (h0 : 0 ≤ v.toInt) (hc : ¬ N ≤ v) (hN : N.toInt = b) (hb : b ≤ 2147483647) : 0 ≤ (v + 1).toInt ∧ (v + 1).toInt ≤ b := by
  rw [Int32.le_iff_toInt_le] at hc
  have h1 : (1 : Int32).toInt = 1 := rfl
  rw [i32add (by omega) (by omega)]
  omega
theorem inc2 {v N : Int32} {b : Int} (h0 : 0 ≤ v.toInt) (hc : v < N) (hN : N.toInt = b) (hb : b ≤ 2147483647) : 0 ≤ (v + 1).toInt ∧ (v + 1).toInt ≤ b := by
  rw [Int32.lt_iff_toInt_lt] at hc
  have h1 : (1 : Int32).toInt = 1 := rfl
  rw [i32add (by omega) (by omega)]
  omega
theorem dec1 {v : Int32} {b : Int} (h0 : 0 ≤ v.toInt ∧ v.toInt ≤ b) (hc : ¬ v ≤ 0) : 0 ≤ (v - 1).toInt ∧ (v - 1).toInt ≤ b - 1 := by
  rw [Int32.le_iff_toInt_le] at hc
  have h1 : (1 : Int32).toInt = 1 := rfl
  have h2 : (0 : Int32).toInt = 0 := rfl
  have h3 := i32r v
  rw [i32sub (by omega) (by omega)]
  omega
theorem vSum {a b N : Int32} (n : Nat) (ha : 0 ≤ a.toInt ∧ a.toInt ≤ 4096) (hb : 0 ≤ b.toInt ∧ b.toInt ≤ 4096) (hN : N.toInt = (n : Int)) (hn : 0 < n) : vp_in (a + b - (a + b) / N * N) n := vRem n (by rw [i32add (by omega) (by omega)]; omega) hN hn
theorem vSum1 {a b : Int32} (ha : 0 ≤ a.toInt ∧ a.toInt ≤ 15) (hb : 0 ≤ b.toInt ∧ b.toInt ≤ 16) (hc : ¬ b = 0) : vp_in (a + b - 1 - (a + b - 1) / 16 * 16) 16 := by
  have h0 : b.toInt ≠ 0 := fun q => hc (Int32.toInt_inj.mp (by rw [q]; rfl))
  have h1 : (1 : Int32).toInt = 1 := rfl
  have h2 : (a + b).toInt = a.toInt + b.toInt := i32add (by omega) (by omega)
  exact vRem 16 (by rw [i32sub (by omega) (by omega), h2]; omega) rfl (by decide)
theorem vTold {f b : Int32} (hf : 0 ≤ f.toInt ∧ f.toInt ≤ 1) (hb : 0 ≤ b.toInt ∧ b.toInt ≤ 255) : vp_in (f * 256 + b) 512 := by
  have h1 : (256 : Int32).toInt = 256 := rfl
  have h2 : (f * 256).toInt = f.toInt * 256 := by rw [i32mul (by rw [h1]; omega) (by rw [h1]; omega), h1]
  refine vp_in_iff.mpr ?_
  rw [i32add (by omega) (by omega), h2]
  omega
theorem rg1 {v N : Int32} {b : Int} (h0 : ¬ v < 0) (h1 : ¬ N < v) (hN : N.toInt = b) : 0 ≤ v.toInt ∧ v.toInt ≤ b := by
  rw [Int32.lt_iff_toInt_lt] at h0 h1
  have h2 : (0 : Int32).toInt = 0 := rfl
  omega
theorem rg2 {v N : Int32} {b : Int} (h0 : ¬ v < 0) (h1 : ¬ N ≤ v) (hN : N.toInt = b + 1) : 0 ≤ v.toInt ∧ v.toInt ≤ b := by
  rw [Int32.lt_iff_toInt_lt] at h0
  rw [Int32.le_iff_toInt_le] at h1
  have h2 : (0 : Int32).toInt = 0 := rfl
  omega
theorem vDep {v : Int32} (h : 0 ≤ v.toInt ∧ v.toInt ≤ 20) (hc : ¬ v ≤ 0) : vp_in (v - 1) 20 := vB2 20 (dec1 h hc) (by decide)
theorem neL {x : Int64} (h : ¬ x ≤ 0) : ¬ x = 0 := fun q => h (by rw [q]; decide)
def f_X1_push (σ0 : PS) : PS := (if 20 ≤ (σ0.1 30) then σ0 else (upS (upA (upA σ0 1 (Int32.toNatClampNeg (σ0.1 30)) (σ0.1 24)) 2 (Int32.toNatClampNeg (σ0.1 30)) (σ0.1 25)) 30 ((σ0.1 30) + 1)))
theorem bx_X1_push {σ0 : PS} (hI : Bx σ0) : Bx (f_X1_push σ0) := (bxI (fun c6 => hI) (fun c6 => (bxQ_30 (bxA (bxA hI)) (inc1 (bxg_30 (σ := σ0) hI).1 c6 rfl (by decide)).1 (inc1 (bxg_30 (σ := σ0) hI).1 c6 rfl (by decide)).2)))
abbrev rm_X1_push : Room := { frames := 0, cells := 0, slots := 0, locals := 0 }
set_option maxHeartbeats 4000000 in
set_option maxRecDepth 100000 in
theorem c_X1_push (l : Launch) (D : va_G) (a : Nat → Nat) (cA : Nat → ClassId) (σ0 : PS) (hI : Bx σ0) : CV l yX1_push cX1_push 1 rm_X1_push D (pdT cA) [.ref (a 3)] (pdW a cA σ0) (pdW a cA (f_X1_push σ0)) := by
  refine en_v (by decide +kernel) (Nat.le_of_ble_eq_true rfl) ?_
  intro p e s m args below meth c A ls Q K hw hl ret
  have hl : lv_has ls 1 [(0, .ref (a 3))] := hl
  refine lv_aload_n K.1 K.2.1 dX1_push_0 rfl (lv_at hl 0 rfl) ?_
  refine gD_3_12 K hw kf_X1_23 dX1_push_1 ?_
  refine lv_bipush (v := 20) K.1 K.2.1 dX1_push_4 (by decide) ?_
  refine lv_icmp_ge (tgt := 45) K.1 K.2.1 dX1_push_6 (by decide) (fun c6 => ?_) (fun c6 => ?_)
  · exact ret (congrArg (pdW a cA) (by exact (Eq.trans (if_pos c6) rfl))) hw dX1_push_45
  · refine lv_aload_n K.1 K.2.1 dX1_push_9 rfl (lv_at hl 0 rfl) ?_
    refine gD_3_13 K hw kf_X1_9 dX1_push_10 ?_
    refine lv_aload_n K.1 K.2.1 dX1_push_13 rfl (lv_at hl 0 rfl) ?_
    refine gD_3_12 K hw kf_X1_23 dX1_push_14 ?_
    refine lv_aload_n K.1 K.2.1 dX1_push_17 rfl (lv_at hl 0 rfl) ?_
    refine gD_3_6 K hw kf_X1_26 dX1_push_18 ?_
    refine sD_8 K hw (vB1 20 (bxg_30 (σ := σ0) hI).1 c6 rfl) rfl dX1_push_21 (fun H locs hw => ?_)
    refine lv_aload_n K.1 K.2.1 dX1_push_22 rfl (lv_at hl 0 rfl) ?_
    refine gD_3_14 K hw kf_X1_13 dX1_push_23 ?_
    refine lv_aload_n K.1 K.2.1 dX1_push_26 rfl (lv_at hl 0 rfl) ?_
    refine gD_3_12 K hw kf_X1_23 dX1_push_27 ?_
    refine lv_aload_n K.1 K.2.1 dX1_push_30 rfl (lv_at hl 0 rfl) ?_
    refine gD_3_7 K hw kf_X1_29 dX1_push_31 ?_
    refine sD_9 K hw (vB1 20 (bxg_30 (σ := σ0) hI).1 c6 rfl) rfl dX1_push_34 (fun H locs hw => ?_)
    refine lv_aload_n K.1 K.2.1 dX1_push_35 rfl (lv_at hl 0 rfl) ?_
    refine lv_dup K.1 K.2.1 dX1_push_36 rfl ?_
    refine gD_3_12 K hw kf_X1_23 dX1_push_37 ?_
    refine lv_iconst (v := 1) K.1 K.2.1 dX1_push_40 (by decide) ?_
    refine lv_iadd K.1 K.2.1 dX1_push_41 ?_
    refine pD_3_12 K hw kf_X1_23 dX1_push_42 (fun H locs hw => ?_)
    exact ret (congrArg (pdW a cA) (by exact (Eq.trans (if_neg c6) rfl))) hw dX1_push_45
def f_X6_put (σ0 : PS) (x1 : Int32) (x2 : Int32) (x3 : Int32) (x4 : Int32) : PS := (if 6000 ≤ (σ0.1 31) then (upS σ0 32 ((σ0.1 32) + 1)) else (upS (upG (upS σ0 32 ((σ0.1 32) + 1)) (Int32.toNatClampNeg (σ0.1 31)) (((((Int32.toInt64 x1) <<< (Int32.toInt64 26 &&& 63)) ||| ((Int32.toInt64 x2) <<< (Int32.toInt64 9 &&& 63))) ||| ((Int32.toInt64 x3) <<< (Int32.toInt64 1 &&& 63))) ||| (Int32.toInt64 x4))) 31 ((σ0.1 31) + 1)))
theorem bx_X6_put {σ0 : PS} {x1 : Int32} {x2 : Int32} {x3 : Int32} {x4 : Int32} (hI : Bx σ0) : Bx (f_X6_put σ0 x1 x2 x3 x4) := (bxI (fun c17 => (bxS_32 hI)) (fun c17 => (bxQ_31 (bxG (bxS_32 hI)) (inc1 (bxg_31 (σ := σ0) hI).1 c17 rfl (by decide)).1 (inc1 (bxg_31 (σ := σ0) hI).1 c17 rfl (by decide)).2)))
abbrev rm_X6_put : Room := { frames := 0, cells := 0, slots := 0, locals := 0 }
set_option maxHeartbeats 4000000 in
set_option maxRecDepth 100000 in
theorem c_X6_put (l : Launch) (D : va_G) (a : Nat → Nat) (cA : Nat → ClassId) (σ0 : PS) (x1 : Int32) (x2 : Int32) (x3 : Int32) (x4 : Int32) (hI : Bx σ0) : CV l yX6_put cX6_put 5 rm_X6_put D (pdT cA) [.ref (a 4), .int x1, .int x2, .int x3, .int x4] (pdW a cA σ0) (pdW a cA (f_X6_put σ0 x1 x2 x3 x4)) := by
  refine en_v (by decide +kernel) (Nat.le_of_ble_eq_true rfl) ?_
  intro p e s m args below meth c A ls Q K hw hl ret
  have hl : lv_has ls 5 [(0, .ref (a 4)), (1, .int x1), (2, .int x2), (3, .int x3), (4, .int x4)] := hl
  refine lv_aload_n K.1 K.2.1 dX6_put_0 rfl (lv_at hl 0 rfl) ?_
  refine lv_dup K.1 K.2.1 dX6_put_1 rfl ?_
  refine gD_4_2 K hw kf_X6_13 dX6_put_2 ?_
  refine lv_iconst (v := 1) K.1 K.2.1 dX6_put_5 (by decide) ?_
  refine lv_iadd K.1 K.2.1 dX6_put_6 ?_
  refine pD_4_2 K hw kf_X6_13 dX6_put_7 (fun H locs hw => ?_)
  refine lv_aload_n K.1 K.2.1 dX6_put_10 rfl (lv_at hl 0 rfl) ?_
  refine gD_4_1 K hw kf_X6_17 dX6_put_11 ?_
  refine lv_sipush (v := 6000) K.1 K.2.1 dX6_put_14 (by decide) ?_
  refine lv_icmp_ge (tgt := 59) K.1 K.2.1 dX6_put_17 (by decide) (fun c17 => ?_) (fun c17 => ?_)
  · exact ret (congrArg (pdW a cA) (by exact (Eq.trans (if_pos c17) rfl))) hw dX6_put_59
  · refine lv_aload_n K.1 K.2.1 dX6_put_20 rfl (lv_at hl 0 rfl) ?_
    refine gD_4_0 K hw kf_X6_9 dX6_put_21 ?_
    refine lv_aload_n K.1 K.2.1 dX6_put_24 rfl (lv_at hl 0 rfl) ?_
    refine gD_4_1 K hw kf_X6_17 dX6_put_25 ?_
    refine lv_iload_n K.1 K.2.1 dX6_put_28 rfl (lv_at hl 1 rfl) ?_
    refine lv_i2l K.1 K.2.1 dX6_put_29 rfl ?_
    refine lv_bipush (v := 26) K.1 K.2.1 dX6_put_30 (by decide) ?_
    refine lv_lshl K.1 K.2.1 dX6_put_32 rfl ?_
    refine lv_iload_n K.1 K.2.1 dX6_put_33 rfl (lv_at hl 2 rfl) ?_
    refine lv_i2l K.1 K.2.1 dX6_put_34 rfl ?_
    refine lv_bipush (v := 9) K.1 K.2.1 dX6_put_35 (by decide) ?_
    refine lv_lshl K.1 K.2.1 dX6_put_37 rfl ?_
    refine lv_lor K.1 K.2.1 dX6_put_38 ?_
    refine lv_iload_n K.1 K.2.1 dX6_put_39 rfl (lv_at hl 3 rfl) ?_
    refine lv_i2l K.1 K.2.1 dX6_put_40 rfl ?_
    refine lv_iconst (v := 1) K.1 K.2.1 dX6_put_41 (by decide) ?_
    refine lv_lshl K.1 K.2.1 dX6_put_42 rfl ?_
    refine lv_lor K.1 K.2.1 dX6_put_43 ?_
    refine lv_iload K.1 K.2.1 dX6_put_44 (lv_at hl 4 rfl) ?_
    refine lv_i2l K.1 K.2.1 dX6_put_46 rfl ?_
    refine lv_lor K.1 K.2.1 dX6_put_47 ?_
    refine sD_13 K hw (vB1 6000 (bxg_31 (σ := σ0) hI).1 c17 rfl) rfl dX6_put_48 (fun H locs hw => ?_)
    refine lv_aload_n K.1 K.2.1 dX6_put_49 rfl (lv_at hl 0 rfl) ?_
    refine lv_dup K.1 K.2.1 dX6_put_50 rfl ?_
    refine gD_4_1 K hw kf_X6_17 dX6_put_51 ?_
    refine lv_iconst (v := 1) K.1 K.2.1 dX6_put_54 (by decide) ?_
    refine lv_iadd K.1 K.2.1 dX6_put_55 ?_
    refine pD_4_1 K hw kf_X6_17 dX6_put_56 (fun H locs hw => ?_)
    exact ret (congrArg (pdW a cA) (by exact (Eq.trans (if_neg c17) rfl))) hw dX6_put_59
def f_X6_partOf (σ0 : PS) (x1 : Int32) (x2 : Int32) : Int32 := let x3_6 : Int64 := (σ0.2.2 (Int32.toNatClampNeg x1)); (if x2 = 0 then (Int64.toInt32 ((Int64.toUInt64 x3_6 >>> (Int64.toUInt64 (Int32.toInt64 26) &&& Int64.toUInt64 63)).toInt64)) else (if x2 = 1 then ((Int64.toInt32 ((Int64.toUInt64 x3_6 >>> (Int64.toUInt64 (Int32.toInt64 9) &&& Int64.toUInt64 63)).toInt64)) &&& 131071) else (if x2 = 2 then ((Int64.toInt32 ((Int64.toUInt64 x3_6 >>> (Int64.toUInt64 (Int32.toInt64 1) &&& Int64.toUInt64 63)).toInt64)) &&& 255) else ((Int64.toInt32 x3_6) &&& 1))))
abbrev rm_X6_partOf : Room := { frames := 0, cells := 0, slots := 0, locals := 0 }
set_option maxHeartbeats 4000000 in
set_option maxRecDepth 100000 in
theorem c_X6_partOf (l : Launch) (D : va_G) (a : Nat → Nat) (cA : Nat → ClassId) (σ0 : PS) (x1 : Int32) (x2 : Int32) (h1 : vp_in x1 6000) : CI l yX6_partOf cX6_partOf 5 .int rm_X6_partOf D (pdT cA) [.ref (a 4), .int x1, .int x2] (pdW a cA σ0) (pdW a cA σ0) (f_X6_partOf σ0 x1 x2) := by
  refine en_i (by decide +kernel) (Nat.le_of_ble_eq_true rfl) rfl ?_
  intro p e s m args below meth c A ls Q K hw hl ret
  have hl : lv_has ls 5 [(0, .ref (a 4)), (1, .int x1), (2, .int x2)] := hl
  refine lv_aload_n K.1 K.2.1 dX6_partOf_0 rfl (lv_at hl 0 rfl) ?_
  refine gD_4_0 K hw kf_X6_9 dX6_partOf_1 ?_
  refine lv_iload_n K.1 K.2.1 dX6_partOf_4 rfl (lv_at hl 1 rfl) ?_
  refine lD_13 K hw h1 rfl dX6_partOf_5 ?_
  refine lv_topl (fun x3_6 ex3_6 => ?_)
  refine lv_lstore_n (lv' := [(3, .long x3_6), (0, .ref (a 4)), (1, .int x1), (2, .int x2)]) K.1 K.2.1 dX6_partOf_6 rfl hl (by decide) rfl (fun ls hl => ?_)
  refine lv_iload_n K.1 K.2.1 dX6_partOf_7 rfl (lv_at hl 3 rfl) ?_
  refine sw_t K dX6_partOf_8 (k := 0) (tgt := 36) (by decide) (by decide) (fun c8_0 => ?_) (fun c8_0 => ?_)
  · refine lv_lload_n K.1 K.2.1 dX6_partOf_36 rfl (lv_at hl 0 rfl) ?_
    refine lv_bipush (v := 26) K.1 K.2.1 dX6_partOf_37 (by decide) ?_
    refine lv_lushr K.1 K.2.1 dX6_partOf_39 rfl ?_
    refine lv_l2i K.1 K.2.1 dX6_partOf_40 rfl ?_
    exact ret rfl (by subst ex3_6; exact (Eq.trans (if_pos c8_0) rfl)) hw dX6_partOf_41
  · refine sw_t K dX6_partOf_8 (k := 1) (tgt := 42) (by decide) (by decide) (fun c8_1 => ?_) (fun c8_1 => ?_)
    · refine lv_lload_n K.1 K.2.1 dX6_partOf_42 rfl (lv_at hl 0 rfl) ?_
      refine lv_bipush (v := 9) K.1 K.2.1 dX6_partOf_43 (by decide) ?_
      refine lv_lushr K.1 K.2.1 dX6_partOf_45 rfl ?_
      refine lv_l2i K.1 K.2.1 dX6_partOf_46 rfl ?_
      refine lv_ldc K.1 K.2.1 K.2.2.2.1 (K.2.2.1 _ kc_X6_24) dX6_partOf_47 ?_
      refine lv_iand K.1 K.2.1 dX6_partOf_49 ?_
      exact ret rfl (by subst ex3_6; exact (Eq.trans (if_neg c8_0) (Eq.trans (if_pos c8_1) rfl))) hw dX6_partOf_50
    · refine sw_t K dX6_partOf_8 (k := 2) (tgt := 51) (by decide) (by decide) (fun c8_2 => ?_) (fun c8_2 => ?_)
      · refine lv_lload_n K.1 K.2.1 dX6_partOf_51 rfl (lv_at hl 0 rfl) ?_
        refine lv_iconst (v := 1) K.1 K.2.1 dX6_partOf_52 (by decide) ?_
        refine lv_lushr K.1 K.2.1 dX6_partOf_53 rfl ?_
        refine lv_l2i K.1 K.2.1 dX6_partOf_54 rfl ?_
        refine lv_sipush (v := 255) K.1 K.2.1 dX6_partOf_55 (by decide) ?_
        refine lv_iand K.1 K.2.1 dX6_partOf_58 ?_
        exact ret rfl (by subst ex3_6; exact (Eq.trans (if_neg c8_0) (Eq.trans (if_neg c8_1) (Eq.trans (if_pos c8_2) rfl)))) hw dX6_partOf_59
      · refine lv_tableOut (tgt := 60) K.1 K.2.1 dX6_partOf_8 (by have h0 := lv_neT c8_0 (a := 0) rfl; have h1 := lv_neT c8_1 (a := 1) rfl; have h2 := lv_neT c8_2 (a := 2) rfl; omega) (by decide) ?_
        refine lv_lload_n K.1 K.2.1 dX6_partOf_60 rfl (lv_at hl 0 rfl) ?_
        refine lv_l2i K.1 K.2.1 dX6_partOf_61 rfl ?_
        refine lv_iconst (v := 1) K.1 K.2.1 dX6_partOf_62 (by decide) ?_
        refine lv_iand K.1 K.2.1 dX6_partOf_63 ?_
        exact ret rfl (by subst ex3_6; exact (Eq.trans (if_neg c8_0) (Eq.trans (if_neg c8_1) (Eq.trans (if_neg c8_2) rfl)))) hw dX6_partOf_64
def f_X3_add (σ0 : PS) : PS := (if (σ0.1 35) < 16 then let j42 : Nat := Int32.toNatClampNeg (((σ0.1 36) + (σ0.1 35)) - ((σ0.1 36) + (σ0.1 35)) / 16 * 16); (upS (upA (upA (upA (upA (upA (upA (upA (upS σ0 39 0) 12 j42 (σ0.1 0)) 13 j42 (σ0.1 1)) 14 j42 (σ0.1 2)) 15 j42 (σ0.1 3)) 16 j42 (σ0.1 4)) 17 j42 0) 18 j42 (σ0.1 5)) 35 ((σ0.1 35) + 1)) else (upS σ0 39 1))
theorem bx_X3_add {σ0 : PS} (hI : Bx σ0) : Bx (f_X3_add σ0) := (bxI (fun c7 => (bxQ_35 (bxA (bxA (bxA (bxA (bxA (bxA (bxA (bxQ_39 hI (by decide) (by decide))))))))) (inc2 (bxg_35 (σ := σ0) hI).1 c7 rfl (by decide)).1 (inc2 (bxg_35 (σ := σ0) hI).1 c7 rfl (by decide)).2)) (fun c7 => (bxQ_39 hI (by decide) (by decide))))
abbrev rm_X3_add : Room := { frames := 0, cells := 0, slots := 0, locals := 0 }
set_option maxHeartbeats 4000000 in
set_option maxRecDepth 100000 in
theorem c_X3_add (l : Launch) (D : va_G) (a : Nat → Nat) (cA : Nat → ClassId) (σ0 : PS) (hI : Bx σ0) : CV l yX3_add cX3_add 3 rm_X3_add D (pdT cA) [.ref (a 6), .ref (a 1)] (pdW a cA σ0) (pdW a cA (f_X3_add σ0)) := by
  refine en_v (by decide +kernel) (Nat.le_of_ble_eq_true rfl) ?_
  intro p e s m args below meth c A ls Q K hw hl ret
  have hl : lv_has ls 3 [(0, .ref (a 6)), (1, .ref (a 1))] := hl
  refine lv_aload_n K.1 K.2.1 dX3_add_0 rfl (lv_at hl 0 rfl) ?_
  refine lv_aload_n K.1 K.2.1 dX3_add_1 rfl (lv_at hl 0 rfl) ?_
  refine gD_6_2 K hw kf_X3_20 dX3_add_2 ?_
  refine lv_bipush (v := 16) K.1 K.2.1 dX3_add_5 (by decide) ?_
  refine lv_icmp_lt (tgt := 14) K.1 K.2.1 dX3_add_7 (by decide) (fun c7 => ?_) (fun c7 => ?_)
  · refine lv_iconst (v := 0) K.1 K.2.1 dX3_add_14 (by decide) ?_
    refine pD_6_6 K hw rfl rfl kf_X3_24 dX3_add_15 (fun H locs hw => ?_)
    refine lv_aload_n K.1 K.2.1 dX3_add_18 rfl (lv_at hl 0 rfl) ?_
    refine gD_6_6 K hw kf_X3_24 dX3_add_19 ?_
    refine lv_if_eq (tgt := 26) K.1 K.2.1 dX3_add_22 (by decide) (fun _ => ?_) (fun c22 => absurd c22 (by show ¬ ¬ ((0 : Int32) = (0 : Int32)); decide))
    refine lv_aload_n K.1 K.2.1 dX3_add_26 rfl (lv_at hl 0 rfl) ?_
    refine gD_6_0 K hw kf_X3_11 dX3_add_27 ?_
    refine lv_aload_n K.1 K.2.1 dX3_add_30 rfl (lv_at hl 0 rfl) ?_
    refine gD_6_3 K hw kf_X3_28 dX3_add_31 ?_
    refine lv_aload_n K.1 K.2.1 dX3_add_34 rfl (lv_at hl 0 rfl) ?_
    refine gD_6_2 K hw kf_X3_20 dX3_add_35 ?_
    refine lv_iadd K.1 K.2.1 dX3_add_38 ?_
    refine lv_bipush (v := 16) K.1 K.2.1 dX3_add_39 (by decide) ?_
    refine lv_irem K.1 K.2.1 dX3_add_41 (by decide) ?_
    refine lD_15n K hw (vSum 16 ⟨(bxg_36 (σ := σ0) hI).1, Int.le_trans (bxg_36 (σ := σ0) hI).2 (by decide)⟩ ⟨(bxg_35 (σ := σ0) hI).1, Int.le_trans (bxg_35 (σ := σ0) hI).2 (by decide)⟩ rfl (by decide)) dX3_add_42 (fun j42 ej42 hj42 => ?_)
    refine lv_astore_n (lv' := [(2, .ref (a (25 + j42))), (0, .ref (a 6)), (1, .ref (a 1))]) K.1 K.2.1 dX3_add_43 rfl hl (by decide) rfl (fun ls hl => ?_)
    refine lv_aload_n K.1 K.2.1 dX3_add_44 rfl (lv_at hl 0 rfl) ?_
    refine lv_aload_n K.1 K.2.1 dX3_add_45 rfl (lv_at hl 2 rfl) ?_
    refine gD_1_0 K hw kf_X3_31 dX3_add_46 ?_
    refine pO_0 K hw hj42 kf_X3_36 dX3_add_49 (fun H locs hw => ?_)
    refine lv_aload_n K.1 K.2.1 dX3_add_52 rfl (lv_at hl 0 rfl) ?_
    refine lv_aload_n K.1 K.2.1 dX3_add_53 rfl (lv_at hl 2 rfl) ?_
    refine gD_1_1 K hw kf_X3_37 dX3_add_54 ?_
    refine pO_1 K hw hj42 kf_X3_40 dX3_add_57 (fun H locs hw => ?_)
    refine lv_aload_n K.1 K.2.1 dX3_add_60 rfl (lv_at hl 0 rfl) ?_
    refine lv_aload_n K.1 K.2.1 dX3_add_61 rfl (lv_at hl 2 rfl) ?_
    refine gD_1_2 K hw kf_X3_41 dX3_add_62 ?_
    refine pO_2 K hw hj42 kf_X3_44 dX3_add_65 (fun H locs hw => ?_)
    refine lv_aload_n K.1 K.2.1 dX3_add_68 rfl (lv_at hl 0 rfl) ?_
    refine lv_aload_n K.1 K.2.1 dX3_add_69 rfl (lv_at hl 2 rfl) ?_
    refine gD_1_3 K hw kf_X3_45 dX3_add_70 ?_
    refine pO_3 K hw hj42 kf_X3_48 dX3_add_73 (fun H locs hw => ?_)
    refine lv_aload_n K.1 K.2.1 dX3_add_76 rfl (lv_at hl 0 rfl) ?_
    refine lv_aload_n K.1 K.2.1 dX3_add_77 rfl (lv_at hl 2 rfl) ?_
    refine gD_1_4 K hw kf_X3_49 dX3_add_78 ?_
    refine pO_4 K hw hj42 (nzB (bxg_4 (σ := σ0) hI)) (fzB (bxg_4 (σ := σ0) hI)) kf_X3_52 dX3_add_81 (fun H locs hw => ?_)
    refine lv_aload_n K.1 K.2.1 dX3_add_84 rfl (lv_at hl 0 rfl) ?_
    refine lv_iconst (v := 0) K.1 K.2.1 dX3_add_85 (by decide) ?_
    refine pO_5 K hw hj42 kf_X3_53 dX3_add_86 (fun H locs hw => ?_)
    refine lv_aload_n K.1 K.2.1 dX3_add_89 rfl (lv_at hl 0 rfl) ?_
    refine lv_aload_n K.1 K.2.1 dX3_add_90 rfl (lv_at hl 2 rfl) ?_
    refine gD_1_5 K hw kf_X3_56 dX3_add_91 ?_
    refine pO_6 K hw hj42 kf_X3_59 dX3_add_94 (fun H locs hw => ?_)
    refine lv_aload_n K.1 K.2.1 dX3_add_97 rfl (lv_at hl 1 rfl) ?_
    refine lv_dup K.1 K.2.1 dX3_add_98 rfl ?_
    refine gD_6_2 K hw kf_X3_20 dX3_add_99 ?_
    refine lv_iconst (v := 1) K.1 K.2.1 dX3_add_102 (by decide) ?_
    refine lv_iadd K.1 K.2.1 dX3_add_103 ?_
    refine pD_6_2 K hw kf_X3_20 dX3_add_104 (fun H locs hw => ?_)
    exact ret (congrArg (pdW a cA) (by subst ej42; exact (Eq.trans (if_pos c7) rfl))) hw dX3_add_107
  · refine lv_iconst (v := 1) K.1 K.2.1 dX3_add_10 (by decide) ?_
    refine lv_goto (tgt := 15) K.1 K.2.1 dX3_add_11 (by decide) ?_
    refine pD_6_6 K hw rfl rfl kf_X3_24 dX3_add_15 (fun H locs hw => ?_)
    refine lv_aload_n K.1 K.2.1 dX3_add_18 rfl (lv_at hl 0 rfl) ?_
    refine gD_6_6 K hw kf_X3_24 dX3_add_19 ?_
    refine lv_if_eq (tgt := 26) K.1 K.2.1 dX3_add_22 (by decide) (fun c22 => absurd c22 (by show ¬ ((1 : Int32) = (0 : Int32)); decide)) (fun _ => ?_)
    exact ret (congrArg (pdW a cA) (by exact (Eq.trans (if_neg c7) rfl))) hw dX3_add_25
def f_X3_addByte (σ0 : PS) (x1 : Int32) : PS := (if (σ0.1 39) = 0 then (if (σ0.1 35) = 0 then σ0 else let j33 : Nat := Int32.toNatClampNeg ((((σ0.1 36) + (σ0.1 35)) - 1) - (((σ0.1 36) + (σ0.1 35)) - 1) / 16 * 16); (if 4096 ≤ (σ0.1 38) then (upA σ0 18 j33 ((σ0.2.1 18 j33) - 1)) else (upA (upS (upA (upA σ0 18 j33 ((σ0.2.1 18 j33) - 1)) 5 (Int32.toNatClampNeg (((σ0.1 37) + (σ0.1 38)) - ((σ0.1 37) + (σ0.1 38)) / 4096 * 4096)) (vp_nar .byte (Int8.toInt32 (Int32.toInt8 x1)))) 38 ((σ0.1 38) + 1)) 17 j33 ((σ0.2.1 17 j33) + 1)))) else σ0)
theorem bx_X3_addByte {σ0 : PS} {x1 : Int32} (hI : Bx σ0) : Bx (f_X3_addByte σ0 x1) := (bxI (fun c4 => (bxI (fun c11 => hI) (fun c11 => (bxI (fun c52 => (bxA hI)) (fun c52 => (bxA (bxQ_38 (bxA (bxA hI)) (inc1 (bxg_38 (σ := σ0) hI).1 c52 rfl (by decide)).1 (inc1 (bxg_38 (σ := σ0) hI).1 c52 rfl (by decide)).2))))))) (fun c4 => hI))
abbrev rm_X3_addByte : Room := { frames := 0, cells := 0, slots := 0, locals := 0 }
set_option maxHeartbeats 4000000 in
set_option maxRecDepth 100000 in
theorem c_X3_addByte (l : Launch) (D : va_G) (a : Nat → Nat) (cA : Nat → ClassId) (σ0 : PS) (x1 : Int32) (hI : Bx σ0) : CV l yX3_addByte cX3_addByte 3 rm_X3_addByte D (pdT cA) [.ref (a 6), .int x1] (pdW a cA σ0) (pdW a cA (f_X3_addByte σ0 x1)) := by
  refine en_v (by decide +kernel) (Nat.le_of_ble_eq_true rfl) ?_
  intro p e s m args below meth c A ls Q K hw hl ret
  have hl : lv_has ls 3 [(0, .ref (a 6)), (1, .int x1)] := hl
  refine lv_aload_n K.1 K.2.1 dX3_addByte_0 rfl (lv_at hl 0 rfl) ?_
  refine gD_6_6 K hw kf_X3_24 dX3_addByte_1 ?_
  refine lv_if_ne (tgt := 14) K.1 K.2.1 dX3_addByte_4 (by decide) (fun c4 => ?_) (fun c4 => ?_)
  · exact ret (congrArg (pdW a cA) (by exact (Eq.trans (if_neg c4) rfl))) hw dX3_addByte_14
  · refine lv_aload_n K.1 K.2.1 dX3_addByte_7 rfl (lv_at hl 0 rfl) ?_
    refine gD_6_2 K hw kf_X3_20 dX3_addByte_8 ?_
    refine lv_if_ne (tgt := 15) K.1 K.2.1 dX3_addByte_11 (by decide) (fun c11 => ?_) (fun c11 => ?_)
    · refine lv_aload_n K.1 K.2.1 dX3_addByte_15 rfl (lv_at hl 0 rfl) ?_
      refine gD_6_0 K hw kf_X3_11 dX3_addByte_16 ?_
      refine lv_aload_n K.1 K.2.1 dX3_addByte_19 rfl (lv_at hl 0 rfl) ?_
      refine gD_6_3 K hw kf_X3_28 dX3_addByte_20 ?_
      refine lv_aload_n K.1 K.2.1 dX3_addByte_23 rfl (lv_at hl 0 rfl) ?_
      refine gD_6_2 K hw kf_X3_20 dX3_addByte_24 ?_
      refine lv_iadd K.1 K.2.1 dX3_addByte_27 ?_
      refine lv_iconst (v := 1) K.1 K.2.1 dX3_addByte_28 (by decide) ?_
      refine lv_isub K.1 K.2.1 dX3_addByte_29 ?_
      refine lv_bipush (v := 16) K.1 K.2.1 dX3_addByte_30 (by decide) ?_
      refine lv_irem K.1 K.2.1 dX3_addByte_32 (by decide) ?_
      refine lD_15n K hw (vSum1 (bxg_36 (σ := σ0) hI) (bxg_35 (σ := σ0) hI) c11) dX3_addByte_33 (fun j33 ej33 hj33 => ?_)
      refine lv_astore_n (lv' := [(2, .ref (a (25 + j33))), (0, .ref (a 6)), (1, .int x1)]) K.1 K.2.1 dX3_addByte_34 rfl hl (by decide) rfl (fun ls hl => ?_)
      refine lv_aload_n K.1 K.2.1 dX3_addByte_35 rfl (lv_at hl 0 rfl) ?_
      refine lv_dup K.1 K.2.1 dX3_addByte_36 rfl ?_
      refine gO_6 K hw hj33 kf_X3_59 dX3_addByte_37 ?_
      refine lv_iconst (v := 1) K.1 K.2.1 dX3_addByte_40 (by decide) ?_
      refine lv_isub K.1 K.2.1 dX3_addByte_41 ?_
      refine pO_6 K hw hj33 kf_X3_59 dX3_addByte_42 (fun H locs hw => ?_)
      refine lv_aload_n K.1 K.2.1 dX3_addByte_45 rfl (lv_at hl 1 rfl) ?_
      refine gD_6_5 K hw kf_X3_62 dX3_addByte_46 ?_
      refine lv_sipush (v := 4096) K.1 K.2.1 dX3_addByte_49 (by decide) ?_
      refine lv_icmp_ge (tgt := 95) K.1 K.2.1 dX3_addByte_52 (by decide) (fun c52 => ?_) (fun c52 => ?_)
      · exact ret (congrArg (pdW a cA) (by subst ej33; exact (Eq.trans (if_pos c4) (Eq.trans (if_neg c11) (Eq.trans (if_pos c52) rfl))))) hw dX3_addByte_95
      · refine lv_aload_n K.1 K.2.1 dX3_addByte_55 rfl (lv_at hl 1 rfl) ?_
        refine gD_6_1 K hw kf_X3_15 dX3_addByte_56 ?_
        refine lv_aload_n K.1 K.2.1 dX3_addByte_59 rfl (lv_at hl 1 rfl) ?_
        refine gD_6_4 K hw kf_X3_65 dX3_addByte_60 ?_
        refine lv_aload_n K.1 K.2.1 dX3_addByte_63 rfl (lv_at hl 1 rfl) ?_
        refine gD_6_5 K hw kf_X3_62 dX3_addByte_64 ?_
        refine lv_iadd K.1 K.2.1 dX3_addByte_67 ?_
        refine lv_sipush (v := 4096) K.1 K.2.1 dX3_addByte_68 (by decide) ?_
        refine lv_irem K.1 K.2.1 dX3_addByte_71 (by decide) ?_
        refine lv_iload_n K.1 K.2.1 dX3_addByte_72 rfl (lv_at hl 2 rfl) ?_
        refine lv_i2b K.1 K.2.1 dX3_addByte_73 rfl ?_
        refine sD_12 K hw (vSum 4096 ⟨(bxg_37 (σ := σ0) hI).1, Int.le_trans (bxg_37 (σ := σ0) hI).2 (by decide)⟩ (bxg_38 (σ := σ0) hI) rfl (by decide)) rfl dX3_addByte_74 (fun H locs hw => ?_)
        refine lv_aload_n K.1 K.2.1 dX3_addByte_75 rfl (lv_at hl 1 rfl) ?_
        refine lv_dup K.1 K.2.1 dX3_addByte_76 rfl ?_
        refine gD_6_5 K hw kf_X3_62 dX3_addByte_77 ?_
        refine lv_iconst (v := 1) K.1 K.2.1 dX3_addByte_80 (by decide) ?_
        refine lv_iadd K.1 K.2.1 dX3_addByte_81 ?_
        refine pD_6_5 K hw kf_X3_62 dX3_addByte_82 (fun H locs hw => ?_)
        refine lv_aload_n K.1 K.2.1 dX3_addByte_85 rfl (lv_at hl 0 rfl) ?_
        refine lv_dup K.1 K.2.1 dX3_addByte_86 rfl ?_
        refine gO_5 K hw hj33 kf_X3_53 dX3_addByte_87 ?_
        refine lv_iconst (v := 1) K.1 K.2.1 dX3_addByte_90 (by decide) ?_
        refine lv_iadd K.1 K.2.1 dX3_addByte_91 ?_
        refine pO_5 K hw hj33 kf_X3_53 dX3_addByte_92 (fun H locs hw => ?_)
        exact ret (congrArg (pdW a cA) (by subst ej33; exact (Eq.trans (if_pos c4) (Eq.trans (if_neg c11) (Eq.trans (if_neg c52) rfl))))) hw dX3_addByte_95
    · exact ret (congrArg (pdW a cA) (by exact (Eq.trans (if_pos c4) (Eq.trans (if_pos c11) rfl)))) hw dX3_addByte_14
def f_X3_firstPart (σ0 : PS) (x1 : Int32) : Int32 := let j8 : Nat := Int32.toNatClampNeg (σ0.1 36); (if x1 = 0 then (σ0.2.1 12 j8) else (if x1 = 1 then (σ0.2.1 13 j8) else (if x1 = 2 then (σ0.2.1 14 j8) else (if x1 = 3 then (σ0.2.1 15 j8) else (if x1 = 4 then (if (σ0.2.1 16 j8) = 0 then 0 else 1) else (if x1 = 5 then (σ0.2.1 17 j8) else (σ0.2.1 18 j8)))))))
abbrev rm_X3_firstPart : Room := { frames := 0, cells := 0, slots := 0, locals := 0 }
set_option maxHeartbeats 4000000 in
set_option maxRecDepth 100000 in
theorem c_X3_firstPart (l : Launch) (D : va_G) (a : Nat → Nat) (cA : Nat → ClassId) (σ0 : PS) (x1 : Int32) (hI : Bx σ0) : CI l yX3_firstPart cX3_firstPart 3 .int rm_X3_firstPart D (pdT cA) [.ref (a 6), .int x1] (pdW a cA σ0) (pdW a cA σ0) (f_X3_firstPart σ0 x1) := by
  refine en_i (by decide +kernel) (Nat.le_of_ble_eq_true rfl) rfl ?_
  intro p e s m args below meth c A ls Q K hw hl ret
  have hl : lv_has ls 3 [(0, .ref (a 6)), (1, .int x1)] := hl
  refine lv_aload_n K.1 K.2.1 dX3_firstPart_0 rfl (lv_at hl 0 rfl) ?_
  refine gD_6_0 K hw kf_X3_11 dX3_firstPart_1 ?_
  refine lv_aload_n K.1 K.2.1 dX3_firstPart_4 rfl (lv_at hl 0 rfl) ?_
  refine gD_6_3 K hw kf_X3_28 dX3_firstPart_5 ?_
  refine lD_15n K hw (vB2 16 (bxg_36 (σ := σ0) hI) (by decide)) dX3_firstPart_8 (fun j8 ej8 hj8 => ?_)
  refine lv_astore_n (lv' := [(2, .ref (a (25 + j8))), (0, .ref (a 6)), (1, .int x1)]) K.1 K.2.1 dX3_firstPart_9 rfl hl (by decide) rfl (fun ls hl => ?_)
  refine lv_iload_n K.1 K.2.1 dX3_firstPart_10 rfl (lv_at hl 2 rfl) ?_
  refine sw_t K dX3_firstPart_11 (k := 0) (tgt := 48) (by decide) (by decide) (fun c11_0 => ?_) (fun c11_0 => ?_)
  · refine lv_aload_n K.1 K.2.1 dX3_firstPart_48 rfl (lv_at hl 0 rfl) ?_
    refine gO_0 K hw hj8 kf_X3_36 dX3_firstPart_49 ?_
    exact ret rfl (by subst ej8; exact (Eq.trans (if_pos c11_0) rfl)) hw dX3_firstPart_52
  · refine sw_t K dX3_firstPart_11 (k := 1) (tgt := 53) (by decide) (by decide) (fun c11_1 => ?_) (fun c11_1 => ?_)
    · refine lv_aload_n K.1 K.2.1 dX3_firstPart_53 rfl (lv_at hl 0 rfl) ?_
      refine gO_1 K hw hj8 kf_X3_40 dX3_firstPart_54 ?_
      exact ret rfl (by subst ej8; exact (Eq.trans (if_neg c11_0) (Eq.trans (if_pos c11_1) rfl))) hw dX3_firstPart_57
    · refine sw_t K dX3_firstPart_11 (k := 2) (tgt := 58) (by decide) (by decide) (fun c11_2 => ?_) (fun c11_2 => ?_)
      · refine lv_aload_n K.1 K.2.1 dX3_firstPart_58 rfl (lv_at hl 0 rfl) ?_
        refine gO_2 K hw hj8 kf_X3_44 dX3_firstPart_59 ?_
        exact ret rfl (by subst ej8; exact (Eq.trans (if_neg c11_0) (Eq.trans (if_neg c11_1) (Eq.trans (if_pos c11_2) rfl)))) hw dX3_firstPart_62
      · refine sw_t K dX3_firstPart_11 (k := 3) (tgt := 63) (by decide) (by decide) (fun c11_3 => ?_) (fun c11_3 => ?_)
        · refine lv_aload_n K.1 K.2.1 dX3_firstPart_63 rfl (lv_at hl 0 rfl) ?_
          refine gO_3 K hw hj8 kf_X3_48 dX3_firstPart_64 ?_
          exact ret rfl (by subst ej8; exact (Eq.trans (if_neg c11_0) (Eq.trans (if_neg c11_1) (Eq.trans (if_neg c11_2) (Eq.trans (if_pos c11_3) rfl))))) hw dX3_firstPart_67
        · refine sw_t K dX3_firstPart_11 (k := 4) (tgt := 68) (by decide) (by decide) (fun c11_4 => ?_) (fun c11_4 => ?_)
          · refine lv_aload_n K.1 K.2.1 dX3_firstPart_68 rfl (lv_at hl 0 rfl) ?_
            refine gO_4 K hw hj8 kf_X3_52 dX3_firstPart_69 ?_
            refine lv_if_eq (tgt := 79) K.1 K.2.1 dX3_firstPart_72 (by decide) (fun c72 => ?_) (fun c72 => ?_)
            · refine lv_iconst (v := 0) K.1 K.2.1 dX3_firstPart_79 (by decide) ?_
              exact ret rfl (by subst ej8; exact (Eq.trans (if_neg c11_0) (Eq.trans (if_neg c11_1) (Eq.trans (if_neg c11_2) (Eq.trans (if_neg c11_3) (Eq.trans (if_pos c11_4) (Eq.trans (if_pos c72) rfl))))))) hw dX3_firstPart_80
            · refine lv_iconst (v := 1) K.1 K.2.1 dX3_firstPart_75 (by decide) ?_
              refine lv_goto (tgt := 80) K.1 K.2.1 dX3_firstPart_76 (by decide) ?_
              exact ret rfl (by subst ej8; exact (Eq.trans (if_neg c11_0) (Eq.trans (if_neg c11_1) (Eq.trans (if_neg c11_2) (Eq.trans (if_neg c11_3) (Eq.trans (if_pos c11_4) (Eq.trans (if_neg c72) rfl))))))) hw dX3_firstPart_80
          · refine sw_t K dX3_firstPart_11 (k := 5) (tgt := 81) (by decide) (by decide) (fun c11_5 => ?_) (fun c11_5 => ?_)
            · refine lv_aload_n K.1 K.2.1 dX3_firstPart_81 rfl (lv_at hl 0 rfl) ?_
              refine gO_5 K hw hj8 kf_X3_53 dX3_firstPart_82 ?_
              exact ret rfl (by subst ej8; exact (Eq.trans (if_neg c11_0) (Eq.trans (if_neg c11_1) (Eq.trans (if_neg c11_2) (Eq.trans (if_neg c11_3) (Eq.trans (if_neg c11_4) (Eq.trans (if_pos c11_5) rfl))))))) hw dX3_firstPart_85
            · refine lv_tableOut (tgt := 86) K.1 K.2.1 dX3_firstPart_11 (by have h0 := lv_neT c11_0 (a := 0) rfl; have h1 := lv_neT c11_1 (a := 1) rfl; have h2 := lv_neT c11_2 (a := 2) rfl; have h3 := lv_neT c11_3 (a := 3) rfl; have h4 := lv_neT c11_4 (a := 4) rfl; have h5 := lv_neT c11_5 (a := 5) rfl; omega) (by decide) ?_
              refine lv_aload_n K.1 K.2.1 dX3_firstPart_86 rfl (lv_at hl 0 rfl) ?_
              refine gO_6 K hw hj8 kf_X3_59 dX3_firstPart_87 ?_
              exact ret rfl (by subst ej8; exact (Eq.trans (if_neg c11_0) (Eq.trans (if_neg c11_1) (Eq.trans (if_neg c11_2) (Eq.trans (if_neg c11_3) (Eq.trans (if_neg c11_4) (Eq.trans (if_neg c11_5) rfl))))))) hw dX3_firstPart_90
def f_X3_removeFirst (σ0 : PS) : PS × Int32 := (if (σ0.1 35) = 0 then (σ0, 0) else let j15 : Nat := Int32.toNatClampNeg (σ0.1 36); (if (σ0.2.1 18 j15) ≤ 0 then let j37 : Nat := Int32.toNatClampNeg (σ0.1 36); let j62 : Nat := Int32.toNatClampNeg (σ0.1 36); ((upS (upS (upS (upS σ0 37 (((σ0.1 37) + (σ0.2.1 17 j37)) - ((σ0.1 37) + (σ0.2.1 17 j37)) / 4096 * 4096)) 38 ((σ0.1 38) - (σ0.2.1 17 j62))) 36 (((σ0.1 36) + 1) - ((σ0.1 36) + 1) / 16 * 16)) 35 ((σ0.1 35) - 1)), 1) else (σ0, 0)))
abbrev rm_X3_removeFirst : Room := { frames := 0, cells := 0, slots := 0, locals := 0 }
theorem nz_X3_removeFirst {σ0 : PS} : NZ (f_X3_removeFirst σ0).2 := (nzI2 nz0 (nzI2 nz1 nz0))
set_option maxHeartbeats 4000000 in
set_option maxRecDepth 100000 in
theorem c_X3_removeFirst (l : Launch) (D : va_G) (a : Nat → Nat) (cA : Nat → ClassId) (σ0 : PS) (hI : Bx σ0) : CI l yX3_removeFirst cX3_removeFirst 1 .boolean rm_X3_removeFirst D (pdT cA) [.ref (a 6)] (pdW a cA σ0) (pdW a cA (f_X3_removeFirst σ0).1) (f_X3_removeFirst σ0).2 := by
  refine en_i (by decide +kernel) (Nat.le_of_ble_eq_true rfl) nz_X3_removeFirst ?_
  intro p e s m args below meth c A ls Q K hw hl ret
  have hl : lv_has ls 1 [(0, .ref (a 6))] := hl
  refine lv_aload_n K.1 K.2.1 dX3_removeFirst_0 rfl (lv_at hl 0 rfl) ?_
  refine gD_6_2 K hw kf_X3_20 dX3_removeFirst_1 ?_
  refine lv_if_eq (tgt := 22) K.1 K.2.1 dX3_removeFirst_4 (by decide) (fun c4 => ?_) (fun c4 => ?_)
  · refine lv_iconst (v := 0) K.1 K.2.1 dX3_removeFirst_22 (by decide) ?_
    have eq9 : f_X3_removeFirst σ0 = (σ0, 0) := (by exact (Eq.trans (if_pos c4) rfl))
    exact ret (congrArg (fun z => pdW a cA z.1) eq9) (congrArg (fun z => z.2) eq9) hw dX3_removeFirst_23
  · refine lv_aload_n K.1 K.2.1 dX3_removeFirst_7 rfl (lv_at hl 0 rfl) ?_
    refine gD_6_0 K hw kf_X3_11 dX3_removeFirst_8 ?_
    refine lv_aload_n K.1 K.2.1 dX3_removeFirst_11 rfl (lv_at hl 0 rfl) ?_
    refine gD_6_3 K hw kf_X3_28 dX3_removeFirst_12 ?_
    refine lD_15n K hw (vB2 16 (bxg_36 (σ := σ0) hI) (by decide)) dX3_removeFirst_15 (fun j15 ej15 hj15 => ?_)
    refine gO_6 K hw hj15 kf_X3_59 dX3_removeFirst_16 ?_
    refine lv_if_le (tgt := 24) K.1 K.2.1 dX3_removeFirst_19 (by decide) (fun c19 => ?_) (fun c19 => ?_)
    · refine lv_aload_n K.1 K.2.1 dX3_removeFirst_24 rfl (lv_at hl 0 rfl) ?_
      refine lv_aload_n K.1 K.2.1 dX3_removeFirst_25 rfl (lv_at hl 0 rfl) ?_
      refine gD_6_4 K hw kf_X3_65 dX3_removeFirst_26 ?_
      refine lv_aload_n K.1 K.2.1 dX3_removeFirst_29 rfl (lv_at hl 0 rfl) ?_
      refine gD_6_0 K hw kf_X3_11 dX3_removeFirst_30 ?_
      refine lv_aload_n K.1 K.2.1 dX3_removeFirst_33 rfl (lv_at hl 0 rfl) ?_
      refine gD_6_3 K hw kf_X3_28 dX3_removeFirst_34 ?_
      refine lD_15n K hw (vB2 16 (bxg_36 (σ := σ0) hI) (by decide)) dX3_removeFirst_37 (fun j37 ej37 hj37 => ?_)
      refine gO_5 K hw hj37 kf_X3_53 dX3_removeFirst_38 ?_
      refine lv_iadd K.1 K.2.1 dX3_removeFirst_41 ?_
      refine lv_sipush (v := 4096) K.1 K.2.1 dX3_removeFirst_42 (by decide) ?_
      refine lv_irem K.1 K.2.1 dX3_removeFirst_45 (by decide) ?_
      refine pD_6_4 K hw kf_X3_65 dX3_removeFirst_46 (fun H locs hw => ?_)
      refine lv_aload_n K.1 K.2.1 dX3_removeFirst_49 rfl (lv_at hl 0 rfl) ?_
      refine lv_dup K.1 K.2.1 dX3_removeFirst_50 rfl ?_
      refine gD_6_5 K hw kf_X3_62 dX3_removeFirst_51 ?_
      refine lv_aload_n K.1 K.2.1 dX3_removeFirst_54 rfl (lv_at hl 0 rfl) ?_
      refine gD_6_0 K hw kf_X3_11 dX3_removeFirst_55 ?_
      refine lv_aload_n K.1 K.2.1 dX3_removeFirst_58 rfl (lv_at hl 0 rfl) ?_
      refine gD_6_3 K hw kf_X3_28 dX3_removeFirst_59 ?_
      refine lD_15n K hw (vB2 16 (bxg_36 (σ := σ0) hI) (by decide)) dX3_removeFirst_62 (fun j62 ej62 hj62 => ?_)
      refine gO_5 K hw hj62 kf_X3_53 dX3_removeFirst_63 ?_
      refine lv_isub K.1 K.2.1 dX3_removeFirst_66 ?_
      refine pD_6_5 K hw kf_X3_62 dX3_removeFirst_67 (fun H locs hw => ?_)
      refine lv_aload_n K.1 K.2.1 dX3_removeFirst_70 rfl (lv_at hl 0 rfl) ?_
      refine lv_aload_n K.1 K.2.1 dX3_removeFirst_71 rfl (lv_at hl 0 rfl) ?_
      refine gD_6_3 K hw kf_X3_28 dX3_removeFirst_72 ?_
      refine lv_iconst (v := 1) K.1 K.2.1 dX3_removeFirst_75 (by decide) ?_
      refine lv_iadd K.1 K.2.1 dX3_removeFirst_76 ?_
      refine lv_bipush (v := 16) K.1 K.2.1 dX3_removeFirst_77 (by decide) ?_
      refine lv_irem K.1 K.2.1 dX3_removeFirst_79 (by decide) ?_
      refine pD_6_3 K hw kf_X3_28 dX3_removeFirst_80 (fun H locs hw => ?_)
      refine lv_aload_n K.1 K.2.1 dX3_removeFirst_83 rfl (lv_at hl 0 rfl) ?_
      refine lv_dup K.1 K.2.1 dX3_removeFirst_84 rfl ?_
      refine gD_6_2 K hw kf_X3_20 dX3_removeFirst_85 ?_
      refine lv_iconst (v := 1) K.1 K.2.1 dX3_removeFirst_88 (by decide) ?_
      refine lv_isub K.1 K.2.1 dX3_removeFirst_89 ?_
      refine pD_6_2 K hw kf_X3_20 dX3_removeFirst_90 (fun H locs hw => ?_)
      refine lv_iconst (v := 1) K.1 K.2.1 dX3_removeFirst_93 (by decide) ?_
      have eq9 : f_X3_removeFirst σ0 = ((upS (upS (upS (upS σ0 37 (((σ0.1 37) + (σ0.2.1 17 j37)) - ((σ0.1 37) + (σ0.2.1 17 j37)) / 4096 * 4096)) 38 ((σ0.1 38) - (σ0.2.1 17 j62))) 36 (((σ0.1 36) + 1) - ((σ0.1 36) + 1) / 16 * 16)) 35 ((σ0.1 35) - 1)), 1) := (by subst ej62 ej37 ej15; exact (Eq.trans (if_neg c4) (Eq.trans (if_pos c19) rfl)))
      exact ret (congrArg (fun z => pdW a cA z.1) eq9) (congrArg (fun z => z.2) eq9) hw dX3_removeFirst_94
    · refine lv_iconst (v := 0) K.1 K.2.1 dX3_removeFirst_22 (by decide) ?_
      have eq9 : f_X3_removeFirst σ0 = (σ0, 0) := (by subst ej15; exact (Eq.trans (if_neg c4) (Eq.trans (if_neg c19) rfl)))
      exact ret (congrArg (fun z => pdW a cA z.1) eq9) (congrArg (fun z => z.2) eq9) hw dX3_removeFirst_23
def f_J9_floorMod_7cf53 (x0 : Int32) (x1 : Int32) : Int32 := let x2_3 : Int32 := (x0 - x0 / x1 * x1); (if 0 ≤ (x0 ^^^ x1) then x2_3 else (if x2_3 = 0 then x2_3 else (x2_3 + x1)))
abbrev rm_J9_floorMod_7cf53 : Room := { frames := 0, cells := 0, slots := 0, locals := 0 }
set_option maxHeartbeats 4000000 in
set_option maxRecDepth 100000 in
theorem c_J9_floorMod_7cf53 (l : Launch) (D : va_G) (a : Nat → Nat) (cA : Nat → ClassId) (σ0 : PS) (x0 : Int32) (x1 : Int32) (h1 : ¬ x1 = 0) : CI l yJ9_floorMod_7cf53 cJ9_floorMod_7cf53 3 .int rm_J9_floorMod_7cf53 D (pdT cA) [.int x0, .int x1] (pdW a cA σ0) (pdW a cA σ0) (f_J9_floorMod_7cf53 x0 x1) := by
  refine en_i (by decide +kernel) (Nat.le_of_ble_eq_true rfl) rfl ?_
  intro p e s m args below meth c A ls Q K hw hl ret
  have hl : lv_has ls 3 [(0, .int x0), (1, .int x1)] := hl
  refine lv_iload_n K.1 K.2.1 dJ9_floorMod_7cf53_0 rfl (lv_at hl 0 rfl) ?_
  refine lv_iload_n K.1 K.2.1 dJ9_floorMod_7cf53_1 rfl (lv_at hl 1 rfl) ?_
  refine lv_irem K.1 K.2.1 dJ9_floorMod_7cf53_2 h1 ?_
  refine lv_topi (fun x2_3 ex2_3 => ?_)
  refine lv_istore_n (lv' := [(2, .int x2_3), (0, .int x0), (1, .int x1)]) K.1 K.2.1 dJ9_floorMod_7cf53_3 rfl hl (by decide) rfl (fun ls hl => ?_)
  refine lv_iload_n K.1 K.2.1 dJ9_floorMod_7cf53_4 rfl (lv_at hl 1 rfl) ?_
  refine lv_iload_n K.1 K.2.1 dJ9_floorMod_7cf53_5 rfl (lv_at hl 2 rfl) ?_
  refine lv_ixor K.1 K.2.1 dJ9_floorMod_7cf53_6 ?_
  refine lv_if_ge (tgt := 18) K.1 K.2.1 dJ9_floorMod_7cf53_7 (by decide) (fun c7 => ?_) (fun c7 => ?_)
  · refine lv_iload_n K.1 K.2.1 dJ9_floorMod_7cf53_18 rfl (lv_at hl 0 rfl) ?_
    exact ret rfl (by subst ex2_3; exact (Eq.trans (if_pos c7) rfl)) hw dJ9_floorMod_7cf53_19
  · refine lv_iload_n K.1 K.2.1 dJ9_floorMod_7cf53_10 rfl (lv_at hl 0 rfl) ?_
    refine lv_if_eq (tgt := 18) K.1 K.2.1 dJ9_floorMod_7cf53_11 (by decide) (fun c11 => ?_) (fun c11 => ?_)
    · refine lv_iload_n K.1 K.2.1 dJ9_floorMod_7cf53_18 rfl (lv_at hl 0 rfl) ?_
      exact ret rfl (by subst ex2_3; exact (Eq.trans (if_neg c7) (Eq.trans (if_pos c11) rfl))) hw dJ9_floorMod_7cf53_19
    · refine lv_iload_n K.1 K.2.1 dJ9_floorMod_7cf53_14 rfl (lv_at hl 0 rfl) ?_
      refine lv_iload_n K.1 K.2.1 dJ9_floorMod_7cf53_15 rfl (lv_at hl 2 rfl) ?_
      refine lv_iadd K.1 K.2.1 dJ9_floorMod_7cf53_16 ?_
      exact ret rfl (by subst ex2_3; exact (Eq.trans (if_neg c7) (Eq.trans (if_neg c11) rfl))) hw dJ9_floorMod_7cf53_17
