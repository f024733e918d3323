def g_X8_value_10 : Nat → PS → Int32 → Int32 → Int32
  | 0, σ0, y1, y2 => 0
  | n + 1, σ0, y1, y2 => (if 4 ≤ y2 then let x1_36 : Int32 := (y1 + (10000 * (σ0.1 16))); (if (σ0.1 15) = 0 then x1_36 else (-x1_36)) else let x1_19 : Int32 := (y1 * 10); let x2_20 : Int32 := y2 + 1; (g_X8_value_10 n σ0 x1_19 x2_20))
def f_X8_value (σ0 : PS) : Int32 := let x1_4 : Int32 := (σ0.1 17); let x2_9 : Int32 := (σ0.1 18); (g_X8_value_10 5 σ0 x1_4 x2_9)
abbrev rm_X8_value : Room := { frames := 0, cells := 0, slots := 0, locals := 0 }
set_option maxHeartbeats 4000000 in
set_option maxRecDepth 100000 in
theorem c_X8_value (l : Launch) (D : va_G) (a : Nat → Nat) (cA : Nat → ClassId) (σ0 : PS) (hI : Bm σ0) : CI l yX8_value cX8_value 3 .int rm_X8_value D (mdT cA) [.ref (a 0)] (mdW a cA σ0) (mdW a cA σ0) (f_X8_value σ0) := by
  refine en_i (by decide +kernel) (Nat.le_of_ble_eq_true rfl) rfl ?_
  intro p e s m args below meth c A ls Q K hw hl ret
  have hl : lv_has ls 3 [(0, .ref (a 0))] := hl
  have J10 : ∀ (n : Nat) (y1 : Int32) (y2 : Int32) (H : Heap) (locs : List Loc) (ls : Array Slot), WD D A s.heap (mdW a cA σ0) H locs → lv_has ls 3 [(0, .ref (a 0)), (1, .int y1), (2, .int y2)] → Bm σ0 → (0 ≤ y2.toInt ∧ y2.toInt ≤ 4 ∧ 4 - y2.toInt < (n : Int)) → f_X8_value σ0 = g_X8_value_10 n σ0 y1 y2 → W p l e rm_X8_value s m args below meth c H locs 0 0 Q (F0 m 10 ls []) := by
    intro n
    induction n with
    | zero =>
      intro y1 y2 H locs ls hw hl hI hv e0
      exact absurd hv (by omega)
    | succ n ih =>
      intro y1 y2 H locs ls hw hl hI hv e0
      refine lv_iload_n K.1 K.2.1 dX8_value_10 rfl (lv_at hl 2 rfl) ?_
      refine lv_iconst (v := 4) K.1 K.2.1 dX8_value_11 (by decide) ?_
      refine lv_icmp_ge (tgt := 26) K.1 K.2.1 dX8_value_12 (by decide) (fun c12 => ?_) (fun c12 => ?_)
      · refine lv_iload_n K.1 K.2.1 dX8_value_26 rfl (lv_at hl 1 rfl) ?_
        refine lv_sipush (v := 10000) K.1 K.2.1 dX8_value_27 (by decide) ?_
        refine lv_aload_n K.1 K.2.1 dX8_value_30 rfl (lv_at hl 0 rfl) ?_
        refine gM_0_16 K hw kf_X8_134 dX8_value_31 ?_
        refine lv_imul K.1 K.2.1 dX8_value_34 ?_
        refine lv_iadd K.1 K.2.1 dX8_value_35 ?_
        refine lv_topi (fun x1_36 ex1_36 => ?_)
        refine lv_istore_n (lv' := [(1, .int x1_36), (0, .ref (a 0)), (2, .int y2)]) K.1 K.2.1 dX8_value_36 rfl hl (by decide) rfl (fun ls hl => ?_)
        refine lv_aload_n K.1 K.2.1 dX8_value_37 rfl (lv_at hl 1 rfl) ?_
        refine gM_0_15 K hw kf_X8_131 dX8_value_38 ?_
        refine lv_if_eq (tgt := 49) K.1 K.2.1 dX8_value_41 (by decide) (fun c41 => ?_) (fun c41 => ?_)
        · refine lv_iload_n K.1 K.2.1 dX8_value_49 rfl (lv_at hl 0 rfl) ?_
          exact ret rfl (by subst ex1_36; exact (Eq.trans e0 (Eq.trans (if_pos c12) (Eq.trans (if_pos c41) rfl)))) hw dX8_value_50
        · refine lv_iload_n K.1 K.2.1 dX8_value_44 rfl (lv_at hl 0 rfl) ?_
          refine lv_ineg K.1 K.2.1 dX8_value_45 ?_
          refine lv_goto (tgt := 50) K.1 K.2.1 dX8_value_46 (by decide) ?_
          exact ret rfl (by subst ex1_36; exact (Eq.trans e0 (Eq.trans (if_pos c12) (Eq.trans (if_neg c41) rfl)))) hw dX8_value_50
      · refine lv_iload_n K.1 K.2.1 dX8_value_15 rfl (lv_at hl 1 rfl) ?_
        refine lv_bipush (v := 10) K.1 K.2.1 dX8_value_16 (by decide) ?_
        refine lv_imul K.1 K.2.1 dX8_value_18 ?_
        refine lv_topi (fun x1_19 ex1_19 => ?_)
        refine lv_istore_n (lv' := [(1, .int x1_19), (0, .ref (a 0)), (2, .int y2)]) K.1 K.2.1 dX8_value_19 rfl hl (by decide) rfl (fun ls hl => ?_)
        obtain ⟨x2_20, ex2_20⟩ : ∃ z9 : Int32, z9 = y2 + 1 := ⟨_, rfl⟩
        refine lv_iinc (v := x2_20) (lv' := [(2, .int x2_20), (1, .int x1_19), (0, .ref (a 0))]) K.1 K.2.1 dX8_value_20 hl (k := 2) rfl (by rw [ex2_20]; rfl) (by decide) rfl (fun ls hl => ?_)
        refine lv_goto (tgt := 10) K.1 K.2.1 dX8_value_23 (by decide) ?_
        exact ih _ _ _ _ _ hw (lv_sub hl [2, 1, 0] rfl) hI (stepUp hv c12 ex2_20 rfl (by decide)) (by subst ex2_20 ex1_19; exact (Eq.trans e0 (Eq.trans (if_neg c12) rfl)))
  refine lv_aload_n K.1 K.2.1 dX8_value_0 rfl (lv_at hl 0 rfl) ?_
  refine gM_0_17 K hw kf_X8_137 dX8_value_1 ?_
  refine lv_topi (fun x1_4 ex1_4 => ?_)
  refine lv_istore_n (lv' := [(1, .int x1_4), (0, .ref (a 0))]) K.1 K.2.1 dX8_value_4 rfl hl (by decide) rfl (fun ls hl => ?_)
  refine lv_aload_n K.1 K.2.1 dX8_value_5 rfl (lv_at hl 1 rfl) ?_
  refine gM_0_18 K hw kf_X8_140 dX8_value_6 ?_
  refine lv_topi (fun x2_9 ex2_9 => ?_)
  refine lv_istore_n (lv' := [(2, .int x2_9), (1, .int x1_4), (0, .ref (a 0))]) K.1 K.2.1 dX8_value_9 rfl hl (by decide) rfl (fun ls hl => ?_)
  exact J10 5 _ _ _ _ _ hw (lv_sub hl [2, 1, 0] rfl) hI (by have h9 := bmg_18 (σ := σ0) hI; rw [ex2_9]; omega) (by subst ex2_9 ex1_4; exact rfl)
def f_X8_handOn (σ0 : PS) (x1 : Int32) (x2 : Int32) : PS := (if (σ0.1 29) = 16 then σ0 else let x3_17 : Int32 := (7 * (σ0.1 29)); (if (σ0.1 14) = 0 then (upS (upS (upA (upA (upA (upA (upA (upA (upA σ0 6 (Int32.toNatClampNeg x3_17) (σ0.1 11)) 6 (Int32.toNatClampNeg (x3_17 + 1)) (σ0.1 12)) 6 (Int32.toNatClampNeg (x3_17 + 2)) x2) 6 (Int32.toNatClampNeg (x3_17 + 3)) x1) 6 (Int32.toNatClampNeg (x3_17 + 4)) 0) 6 (Int32.toNatClampNeg (x3_17 + 5)) 0) 6 (Int32.toNatClampNeg (x3_17 + 6)) (σ0.1 19)) 29 ((σ0.1 29) + 1)) 21 2) else (upS (upS (upA (upA (upA (upA (upA (upA (upA σ0 6 (Int32.toNatClampNeg x3_17) (σ0.1 11)) 6 (Int32.toNatClampNeg (x3_17 + 1)) (σ0.1 12)) 6 (Int32.toNatClampNeg (x3_17 + 2)) x2) 6 (Int32.toNatClampNeg (x3_17 + 3)) x1) 6 (Int32.toNatClampNeg (x3_17 + 4)) 1) 6 (Int32.toNatClampNeg (x3_17 + 5)) 0) 6 (Int32.toNatClampNeg (x3_17 + 6)) (σ0.1 19)) 29 ((σ0.1 29) + 1)) 21 2)))
theorem bm_X8_handOn {σ0 : PS} {x1 : Int32} {x2 : Int32} (hI : Bm σ0) : Bm (f_X8_handOn σ0 x1 x2) := (bxI (fun c6 => hI) (fun c6 => (bxI (fun c69 => (bmS_21 (bmQ_29 (bmA (by decide) (bmA (by decide) (bmA (by decide) (bmA (by decide) (bmA (by decide) (bmA (by decide) (bmA (by decide) hI))))))) (inc16 (bmg_29 (σ := σ0) hI) c6).1 (inc16 (bmg_29 (σ := σ0) hI) c6).2))) (fun c69 => (bmS_21 (bmQ_29 (bmA (by decide) (bmA (by decide) (bmA (by decide) (bmA (by decide) (bmA (by decide) (bmA (by decide) (bmA (by decide) hI))))))) (inc16 (bmg_29 (σ := σ0) hI) c6).1 (inc16 (bmg_29 (σ := σ0) hI) c6).2))))))
theorem pm_X8_handOn {n : Int} {σ0 : PS} {x1 : Int32} {x2 : Int32} (hP : Pm n σ0) : Pm (n) (f_X8_handOn σ0 x1 x2) := (bxI (fun c6 => hP) (fun c6 => (bxI (fun c69 => hP) (fun c69 => hP))))
abbrev rm_X8_handOn : Room := { frames := 0, cells := 0, slots := 0, locals := 0 }
set_option maxHeartbeats 4000000 in
set_option maxRecDepth 100000 in
theorem c_X8_handOn (l : Launch) (D : va_G) (a : Nat → Nat) (cA : Nat → ClassId) (σ0 : PS) (x1 : Int32) (x2 : Int32) (hI : Bm σ0) : CV l yX8_handOn cX8_handOn 4 rm_X8_handOn D (mdT cA) [.ref (a 0), .int x1, .int x2] (mdW a cA σ0) (mdW a cA (f_X8_handOn σ0 x1 x2)) := by
  refine en_v (by decide +kernel) (Nat.le_of_ble_eq_true rfl) ?_
  intro p e s m args below meth c A ls Q K hw hl ret
  have hl : lv_has ls 4 [(0, .ref (a 0)), (1, .int x1), (2, .int x2)] := hl
  refine lv_aload_n K.1 K.2.1 dX8_handOn_0 rfl (lv_at hl 0 rfl) ?_
  refine gM_0_29 K hw kf_X8_182 dX8_handOn_1 ?_
  refine lv_bipush (v := 16) K.1 K.2.1 dX8_handOn_4 (by decide) ?_
  refine lv_icmp_ne (tgt := 10) K.1 K.2.1 dX8_handOn_6 (by decide) (fun c6 => ?_) (fun c6 => ?_)
  · refine lv_bipush (v := 7) K.1 K.2.1 dX8_handOn_10 (by decide) ?_
    refine lv_aload_n K.1 K.2.1 dX8_handOn_12 rfl (lv_at hl 0 rfl) ?_
    refine gM_0_29 K hw kf_X8_182 dX8_handOn_13 ?_
    refine lv_imul K.1 K.2.1 dX8_handOn_16 ?_
    refine lv_topi (fun x3_17 ex3_17 => ?_)
    refine lv_istore_n (lv' := [(3, .int x3_17), (0, .ref (a 0)), (1, .int x1), (2, .int x2)]) K.1 K.2.1 dX8_handOn_17 rfl hl (by decide) rfl (fun ls hl => ?_)
    refine lv_aload_n K.1 K.2.1 dX8_handOn_18 rfl (lv_at hl 1 rfl) ?_
    refine gM_0_30 K hw kf_X8_29 dX8_handOn_19 ?_
    refine lv_iload_n K.1 K.2.1 dX8_handOn_22 rfl (lv_at hl 0 rfl) ?_
    refine lv_aload_n K.1 K.2.1 dX8_handOn_23 rfl (lv_at hl 1 rfl) ?_
    refine gM_0_11 K hw kf_X8_149 dX8_handOn_24 ?_
    refine sM_7 K hw (by rw [ex3_17]; exact vOt0 (bmg_29 (σ := σ0) hI) c6) rfl dX8_handOn_27 (fun H locs hw => ?_)
    refine lv_aload_n K.1 K.2.1 dX8_handOn_28 rfl (lv_at hl 1 rfl) ?_
    refine gM_0_30 K hw kf_X8_29 dX8_handOn_29 ?_
    refine lv_iload_n K.1 K.2.1 dX8_handOn_32 rfl (lv_at hl 0 rfl) ?_
    refine lv_iconst (v := 1) K.1 K.2.1 dX8_handOn_33 (by decide) ?_
    refine lv_iadd K.1 K.2.1 dX8_handOn_34 ?_
    refine lv_aload_n K.1 K.2.1 dX8_handOn_35 rfl (lv_at hl 1 rfl) ?_
    refine gM_0_12 K hw kf_X8_152 dX8_handOn_36 ?_
    refine sM_7 K hw (by rw [ex3_17]; exact vOt (bmg_29 (σ := σ0) hI) c6 (by decide)) rfl dX8_handOn_39 (fun H locs hw => ?_)
    refine lv_aload_n K.1 K.2.1 dX8_handOn_40 rfl (lv_at hl 1 rfl) ?_
    refine gM_0_30 K hw kf_X8_29 dX8_handOn_41 ?_
    refine lv_iload_n K.1 K.2.1 dX8_handOn_44 rfl (lv_at hl 0 rfl) ?_
    refine lv_iconst (v := 2) K.1 K.2.1 dX8_handOn_45 (by decide) ?_
    refine lv_iadd K.1 K.2.1 dX8_handOn_46 ?_
    refine lv_iload_n K.1 K.2.1 dX8_handOn_47 rfl (lv_at hl 3 rfl) ?_
    refine sM_7 K hw (by rw [ex3_17]; exact vOt (bmg_29 (σ := σ0) hI) c6 (by decide)) rfl dX8_handOn_48 (fun H locs hw => ?_)
    refine lv_aload_n K.1 K.2.1 dX8_handOn_49 rfl (lv_at hl 1 rfl) ?_
    refine gM_0_30 K hw kf_X8_29 dX8_handOn_50 ?_
    refine lv_iload_n K.1 K.2.1 dX8_handOn_53 rfl (lv_at hl 0 rfl) ?_
    refine lv_iconst (v := 3) K.1 K.2.1 dX8_handOn_54 (by decide) ?_
    refine lv_iadd K.1 K.2.1 dX8_handOn_55 ?_
    refine lv_iload_n K.1 K.2.1 dX8_handOn_56 rfl (lv_at hl 2 rfl) ?_
    refine sM_7 K hw (by rw [ex3_17]; exact vOt (bmg_29 (σ := σ0) hI) c6 (by decide)) rfl dX8_handOn_57 (fun H locs hw => ?_)
    refine lv_aload_n K.1 K.2.1 dX8_handOn_58 rfl (lv_at hl 1 rfl) ?_
    refine gM_0_30 K hw kf_X8_29 dX8_handOn_59 ?_
    refine lv_iload_n K.1 K.2.1 dX8_handOn_62 rfl (lv_at hl 0 rfl) ?_
    refine lv_iconst (v := 4) K.1 K.2.1 dX8_handOn_63 (by decide) ?_
    refine lv_iadd K.1 K.2.1 dX8_handOn_64 ?_
    refine lv_aload_n K.1 K.2.1 dX8_handOn_65 rfl (lv_at hl 1 rfl) ?_
    refine gM_0_14 K hw kf_X8_128 dX8_handOn_66 ?_
    refine lv_if_eq (tgt := 76) K.1 K.2.1 dX8_handOn_69 (by decide) (fun c69 => ?_) (fun c69 => ?_)
    · refine lv_iconst (v := 0) K.1 K.2.1 dX8_handOn_76 (by decide) ?_
      refine sM_7 K hw (by rw [ex3_17]; exact vOt (bmg_29 (σ := σ0) hI) c6 (by decide)) rfl dX8_handOn_77 (fun H locs hw => ?_)
      refine lv_aload_n K.1 K.2.1 dX8_handOn_78 rfl (lv_at hl 1 rfl) ?_
      refine gM_0_30 K hw kf_X8_29 dX8_handOn_79 ?_
      refine lv_iload_n K.1 K.2.1 dX8_handOn_82 rfl (lv_at hl 0 rfl) ?_
      refine lv_iconst (v := 5) K.1 K.2.1 dX8_handOn_83 (by decide) ?_
      refine lv_iadd K.1 K.2.1 dX8_handOn_84 ?_
      refine lv_iconst (v := 0) K.1 K.2.1 dX8_handOn_85 (by decide) ?_
      refine sM_7 K hw (by rw [ex3_17]; exact vOt (bmg_29 (σ := σ0) hI) c6 (by decide)) rfl dX8_handOn_86 (fun H locs hw => ?_)
      refine lv_aload_n K.1 K.2.1 dX8_handOn_87 rfl (lv_at hl 1 rfl) ?_
      refine gM_0_30 K hw kf_X8_29 dX8_handOn_88 ?_
      refine lv_iload_n K.1 K.2.1 dX8_handOn_91 rfl (lv_at hl 0 rfl) ?_
      refine lv_bipush (v := 6) K.1 K.2.1 dX8_handOn_92 (by decide) ?_
      refine lv_iadd K.1 K.2.1 dX8_handOn_94 ?_
      refine lv_aload_n K.1 K.2.1 dX8_handOn_95 rfl (lv_at hl 1 rfl) ?_
      refine gM_0_19 K hw kf_X8_165 dX8_handOn_96 ?_
      refine sM_7 K hw (by rw [ex3_17]; exact vOt (bmg_29 (σ := σ0) hI) c6 (by decide)) rfl dX8_handOn_99 (fun H locs hw => ?_)
      refine lv_aload_n K.1 K.2.1 dX8_handOn_100 rfl (lv_at hl 1 rfl) ?_
      refine lv_dup K.1 K.2.1 dX8_handOn_101 rfl ?_
      refine gM_0_29 K hw kf_X8_182 dX8_handOn_102 ?_
      refine lv_iconst (v := 1) K.1 K.2.1 dX8_handOn_105 (by decide) ?_
      refine lv_iadd K.1 K.2.1 dX8_handOn_106 ?_
      refine pM_0_29 K hw kf_X8_182 dX8_handOn_107 (fun H locs hw => ?_)
      refine lv_aload_n K.1 K.2.1 dX8_handOn_110 rfl (lv_at hl 1 rfl) ?_
      refine lv_iconst (v := 2) K.1 K.2.1 dX8_handOn_111 (by decide) ?_
      refine pM_0_21 K hw kf_X8_168 dX8_handOn_112 (fun H locs hw => ?_)
      exact ret (congrArg (mdW a cA) (by subst ex3_17; exact (Eq.trans (if_neg c6) (Eq.trans (if_pos c69) rfl)))) hw dX8_handOn_115
    · refine lv_iconst (v := 1) K.1 K.2.1 dX8_handOn_72 (by decide) ?_
      refine lv_goto (tgt := 77) K.1 K.2.1 dX8_handOn_73 (by decide) ?_
      refine sM_7 K hw (by rw [ex3_17]; exact vOt (bmg_29 (σ := σ0) hI) c6 (by decide)) rfl dX8_handOn_77 (fun H locs hw => ?_)
      refine lv_aload_n K.1 K.2.1 dX8_handOn_78 rfl (lv_at hl 1 rfl) ?_
      refine gM_0_30 K hw kf_X8_29 dX8_handOn_79 ?_
      refine lv_iload_n K.1 K.2.1 dX8_handOn_82 rfl (lv_at hl 0 rfl) ?_
      refine lv_iconst (v := 5) K.1 K.2.1 dX8_handOn_83 (by decide) ?_
      refine lv_iadd K.1 K.2.1 dX8_handOn_84 ?_
      refine lv_iconst (v := 0) K.1 K.2.1 dX8_handOn_85 (by decide) ?_
      refine sM_7 K hw (by rw [ex3_17]; exact vOt (bmg_29 (σ := σ0) hI) c6 (by decide)) rfl dX8_handOn_86 (fun H locs hw => ?_)
      refine lv_aload_n K.1 K.2.1 dX8_handOn_87 rfl (lv_at hl 1 rfl) ?_
      refine gM_0_30 K hw kf_X8_29 dX8_handOn_88 ?_
      refine lv_iload_n K.1 K.2.1 dX8_handOn_91 rfl (lv_at hl 0 rfl) ?_
      refine lv_bipush (v := 6) K.1 K.2.1 dX8_handOn_92 (by decide) ?_
      refine lv_iadd K.1 K.2.1 dX8_handOn_94 ?_
      refine lv_aload_n K.1 K.2.1 dX8_handOn_95 rfl (lv_at hl 1 rfl) ?_
      refine gM_0_19 K hw kf_X8_165 dX8_handOn_96 ?_
      refine sM_7 K hw (by rw [ex3_17]; exact vOt (bmg_29 (σ := σ0) hI) c6 (by decide)) rfl dX8_handOn_99 (fun H locs hw => ?_)
      refine lv_aload_n K.1 K.2.1 dX8_handOn_100 rfl (lv_at hl 1 rfl) ?_
      refine lv_dup K.1 K.2.1 dX8_handOn_101 rfl ?_
      refine gM_0_29 K hw kf_X8_182 dX8_handOn_102 ?_
      refine lv_iconst (v := 1) K.1 K.2.1 dX8_handOn_105 (by decide) ?_
      refine lv_iadd K.1 K.2.1 dX8_handOn_106 ?_
      refine pM_0_29 K hw kf_X8_182 dX8_handOn_107 (fun H locs hw => ?_)
      refine lv_aload_n K.1 K.2.1 dX8_handOn_110 rfl (lv_at hl 1 rfl) ?_
      refine lv_iconst (v := 2) K.1 K.2.1 dX8_handOn_111 (by decide) ?_
      refine pM_0_21 K hw kf_X8_168 dX8_handOn_112 (fun H locs hw => ?_)
      exact ret (congrArg (mdW a cA) (by subst ex3_17; exact (Eq.trans (if_neg c6) (Eq.trans (if_neg c69) rfl)))) hw dX8_handOn_115
  · exact ret (congrArg (mdW a cA) (by exact (Eq.trans (if_pos c6) rfl))) hw dX8_handOn_9
def g_X8_datum_101 (σ : PS) : PS := (if (σ.1 19) ≤ 0 then (if (σ.1 20) = 0 then (upS σ 10 3) else (upS σ 10 0)) else (upS σ 10 4))
def f_X8_datum (σ0 : PS) (x1 : Int32) : PS := (if (σ0.1 21) = 1 then let s20 : PS := f_X8_character (upS σ0 19 ((σ0.1 19) - 1)) x1; (g_X8_datum_101 s20) else (if (σ0.1 21) = 2 then let x2_44 : Int32 := ((7 * (σ0.1 29)) - 7); (if 4096 ≤ (σ0.1 31) then (g_X8_datum_101 (upA (upS σ0 19 ((σ0.1 19) - 1)) 6 (Int32.toNatClampNeg (x2_44 + 6)) ((σ0.2.1 6 (Int32.toNatClampNeg (x2_44 + 6))) - 1))) else (g_X8_datum_101 (upA (upS (upA (upA (upS σ0 19 ((σ0.1 19) - 1)) 6 (Int32.toNatClampNeg (x2_44 + 6)) ((σ0.2.1 6 (Int32.toNatClampNeg (x2_44 + 6))) - 1)) 7 (Int32.toNatClampNeg (σ0.1 31)) (vp_nar .byte (Int8.toInt32 (Int32.toInt8 x1)))) 31 ((σ0.1 31) + 1)) 6 (Int32.toNatClampNeg (x2_44 + 5)) (((upS (upA (upA (upS σ0 19 ((σ0.1 19) - 1)) 6 (Int32.toNatClampNeg (x2_44 + 6)) ((σ0.2.1 6 (Int32.toNatClampNeg (x2_44 + 6))) - 1)) 7 (Int32.toNatClampNeg (σ0.1 31)) (vp_nar .byte (Int8.toInt32 (Int32.toInt8 x1)))) 31 ((σ0.1 31) + 1)).2.1 6 (Int32.toNatClampNeg (x2_44 + 5))) + 1)))) else (g_X8_datum_101 (upS σ0 19 ((σ0.1 19) - 1)))))
theorem bm_g_X8_datum_101 {σ : PS} (hI : Bm σ) : Bm (g_X8_datum_101 σ) := (bxI (fun c106 => (bxI (fun c117 => (bmS_10 hI)) (fun c117 => (bmS_10 hI)))) (fun c106 => (bmS_10 hI)))
theorem bm_X8_datum {σ0 : PS} {x1 : Int32} (hI : Bm σ0) : Bm (f_X8_datum σ0 x1) := (bxI (fun c15 => (bm_g_X8_datum_101 (bm_X8_character (bmS_19 hI)))) (fun c15 => (bxI (fun c31 => (bxI (fun c65 => (bm_g_X8_datum_101 (bmA (by decide) (bmS_19 hI)))) (fun c65 => (bm_g_X8_datum_101 (bmA (by decide) (bmQ_31 (bmA (by decide) (bmA (by decide) (bmS_19 hI))) (inc1 (bmg_31 (σ := σ0) hI).1 c65 rfl (by decide)).1 (inc1 (bmg_31 (σ := σ0) hI).1 c65 rfl (by decide)).2)))))) (fun c31 => (bm_g_X8_datum_101 (bmS_19 hI))))))
theorem pm_g_X8_datum_101 {n : Int} {σ : PS} (hP : Pm n σ) : Pm (n) (g_X8_datum_101 σ) := (bxI (fun c106 => (bxI (fun c117 => hP) (fun c117 => hP))) (fun c106 => hP))
theorem pm_X8_datum {n : Int} {σ0 : PS} {x1 : Int32} (hP : Pm n σ0) (hn : n ≤ 2147483646) : Pm (n + 1) (f_X8_datum σ0 x1) := (bxI (fun c15 => (pm_g_X8_datum_101 (pm_X8_character hP hn))) (fun c15 => (pm_w (bxI (fun c31 => (bxI (fun c65 => (pm_g_X8_datum_101 hP)) (fun c65 => (pm_g_X8_datum_101 hP)))) (fun c31 => (pm_g_X8_datum_101 hP))))))
abbrev rm_X8_datum : Room := { frames := 5, cells := 0, slots := 0, locals := 111 }
set_option maxHeartbeats 4000000 in
set_option maxRecDepth 100000 in
theorem c_X8_datum (l : Launch) (D : va_G) (a : Nat → Nat) (cA : Nat → ClassId) (σ0 : PS) (x1 : Int32) (hI : Bm σ0) (hp : 0 ≤ (σ0.1 27).toInt) (hb : 0 ≤ x1.toInt ∧ x1.toInt ≤ 255) (h3 : σ0.1 21 = 2 → 1 ≤ (σ0.1 29).toInt) : CV l yX8_datum cX8_datum 3 rm_X8_datum D (mdT cA) [.ref (a 0), .int x1] (mdW a cA σ0) (mdW a cA (f_X8_datum σ0 x1)) := by
  refine en_v (by decide +kernel) (Nat.le_of_ble_eq_true rfl) ?_
  intro p e s m args below meth c A ls Q K hw hl ret
  have hl : lv_has ls 3 [(0, .ref (a 0)), (1, .int x1)] := hl
  have J101 : ∀ (σ : PS) (H : Heap) (locs : List Loc) (ls : Array Slot), WD D A s.heap (mdW a cA σ) H locs → lv_has ls 3 [(0, .ref (a 0))] → Bm σ → f_X8_datum σ0 x1 = g_X8_datum_101 σ → W p l e rm_X8_datum s m args below meth c H locs 0 0 Q (F0 m 101 ls []) := by
    intro σ H locs ls hw hl hI e0
    refine lv_aload_n K.1 K.2.1 dX8_datum_101 rfl (lv_at hl 0 rfl) ?_
    refine lv_aload_n K.1 K.2.1 dX8_datum_102 rfl (lv_at hl 0 rfl) ?_
    refine gM_0_19 K hw kf_X8_165 dX8_datum_103 ?_
    refine lv_if_le (tgt := 113) K.1 K.2.1 dX8_datum_106 (by decide) (fun c106 => ?_) (fun c106 => ?_)
    · refine lv_aload_n K.1 K.2.1 dX8_datum_113 rfl (lv_at hl 0 rfl) ?_
      refine gM_0_20 K hw kf_X8_162 dX8_datum_114 ?_
      refine lv_if_eq (tgt := 124) K.1 K.2.1 dX8_datum_117 (by decide) (fun c117 => ?_) (fun c117 => ?_)
      · refine lv_iconst (v := 3) K.1 K.2.1 dX8_datum_124 (by decide) ?_
        refine pM_0_10 K hw kf_X8_143 dX8_datum_125 (fun H locs hw => ?_)
        exact ret (congrArg (mdW a cA) (by exact (Eq.trans e0 (Eq.trans (if_pos c106) (Eq.trans (if_pos c117) rfl))))) hw dX8_datum_128
      · refine lv_iconst (v := 0) K.1 K.2.1 dX8_datum_120 (by decide) ?_
        refine lv_goto (tgt := 125) K.1 K.2.1 dX8_datum_121 (by decide) ?_
        refine pM_0_10 K hw kf_X8_143 dX8_datum_125 (fun H locs hw => ?_)
        exact ret (congrArg (mdW a cA) (by exact (Eq.trans e0 (Eq.trans (if_pos c106) (Eq.trans (if_neg c117) rfl))))) hw dX8_datum_128
    · refine lv_iconst (v := 4) K.1 K.2.1 dX8_datum_109 (by decide) ?_
      refine lv_goto (tgt := 125) K.1 K.2.1 dX8_datum_110 (by decide) ?_
      refine pM_0_10 K hw kf_X8_143 dX8_datum_125 (fun H locs hw => ?_)
      exact ret (congrArg (mdW a cA) (by exact (Eq.trans e0 (Eq.trans (if_neg c106) rfl)))) hw dX8_datum_128
  refine lv_aload_n K.1 K.2.1 dX8_datum_0 rfl (lv_at hl 0 rfl) ?_
  refine lv_dup K.1 K.2.1 dX8_datum_1 rfl ?_
  refine gM_0_19 K hw kf_X8_165 dX8_datum_2 ?_
  refine lv_iconst (v := 1) K.1 K.2.1 dX8_datum_5 (by decide) ?_
  refine lv_isub K.1 K.2.1 dX8_datum_6 ?_
  refine pM_0_19 K hw kf_X8_165 dX8_datum_7 (fun H locs hw => ?_)
  refine lv_aload_n K.1 K.2.1 dX8_datum_10 rfl (lv_at hl 0 rfl) ?_
  refine gM_0_21 K hw kf_X8_168 dX8_datum_11 ?_
  refine lv_iconst (v := 1) K.1 K.2.1 dX8_datum_14 (by decide) ?_
  refine lv_icmp_ne (tgt := 26) K.1 K.2.1 dX8_datum_15 (by decide) (fun c15 => ?_) (fun c15 => ?_)
  · refine lv_aload_n K.1 K.2.1 dX8_datum_26 rfl (lv_at hl 0 rfl) ?_
    refine gM_0_21 K hw kf_X8_168 dX8_datum_27 ?_
    refine lv_iconst (v := 2) K.1 K.2.1 dX8_datum_30 (by decide) ?_
    refine lv_icmp_ne (tgt := 101) K.1 K.2.1 dX8_datum_31 (by decide) (fun c31 => ?_) (fun c31 => ?_)
    · exact J101 _ _ _ _ hw (lv_sub hl [0] rfl) (bmS_19 hI) (by exact (Eq.trans (if_neg c15) (Eq.trans (if_neg c31) rfl)))
    · refine lv_bipush (v := 7) K.1 K.2.1 dX8_datum_34 (by decide) ?_
      refine lv_aload_n K.1 K.2.1 dX8_datum_36 rfl (lv_at hl 0 rfl) ?_
      refine gM_0_29 K hw kf_X8_182 dX8_datum_37 ?_
      refine lv_imul K.1 K.2.1 dX8_datum_40 ?_
      refine lv_bipush (v := 7) K.1 K.2.1 dX8_datum_41 (by decide) ?_
      refine lv_isub K.1 K.2.1 dX8_datum_43 ?_
      refine lv_topi (fun x2_44 ex2_44 => ?_)
      refine lv_istore_n (lv' := [(2, .int x2_44), (0, .ref (a 0)), (1, .int x1)]) K.1 K.2.1 dX8_datum_44 rfl hl (by decide) rfl (fun ls hl => ?_)
      refine lv_aload_n K.1 K.2.1 dX8_datum_45 rfl (lv_at hl 1 rfl) ?_
      refine gM_0_30 K hw kf_X8_29 dX8_datum_46 ?_
      refine lv_iload_n K.1 K.2.1 dX8_datum_49 rfl (lv_at hl 0 rfl) ?_
      refine lv_bipush (v := 6) K.1 K.2.1 dX8_datum_50 (by decide) ?_
      refine lv_iadd K.1 K.2.1 dX8_datum_52 ?_
      refine lv_dup2_11 K.1 K.2.1 dX8_datum_53 rfl rfl ?_
      refine lM_7 K hw (by rw [ex2_44]; exact vDt (h3 c31) (bmg_29 (σ := σ0) hI).2 (by decide)) rfl dX8_datum_54 ?_
      refine lv_iconst (v := 1) K.1 K.2.1 dX8_datum_55 (by decide) ?_
      refine lv_isub K.1 K.2.1 dX8_datum_56 ?_
      refine sM_7 K hw (by rw [ex2_44]; exact vDt (h3 c31) (bmg_29 (σ := σ0) hI).2 (by decide)) rfl dX8_datum_57 (fun H locs hw => ?_)
      refine lv_aload_n K.1 K.2.1 dX8_datum_58 rfl (lv_at hl 1 rfl) ?_
      refine gM_0_31 K hw kf_X8_188 dX8_datum_59 ?_
      refine lv_sipush (v := 4096) K.1 K.2.1 dX8_datum_62 (by decide) ?_
      refine lv_icmp_ge (tgt := 101) K.1 K.2.1 dX8_datum_65 (by decide) (fun c65 => ?_) (fun c65 => ?_)
      · exact J101 _ _ _ _ hw (lv_sub hl [1] rfl) (bmA (by decide) (bmS_19 hI)) (by subst ex2_44; exact (Eq.trans (if_neg c15) (Eq.trans (if_pos c31) (Eq.trans (if_pos c65) rfl))))
      · refine lv_aload_n K.1 K.2.1 dX8_datum_68 rfl (lv_at hl 1 rfl) ?_
        refine gM_0_32 K hw kf_X8_32 dX8_datum_69 ?_
        refine lv_aload_n K.1 K.2.1 dX8_datum_72 rfl (lv_at hl 1 rfl) ?_
        refine gM_0_31 K hw kf_X8_188 dX8_datum_73 ?_
        refine lv_iload_n K.1 K.2.1 dX8_datum_76 rfl (lv_at hl 2 rfl) ?_
        refine lv_i2b K.1 K.2.1 dX8_datum_77 rfl ?_
        refine sM_8 K hw (ixUp (bmg_31 (σ := σ0) hI).1 c65 (b := 4096) rfl (by decide)) rfl dX8_datum_78 (fun H locs hw => ?_)
        refine lv_aload_n K.1 K.2.1 dX8_datum_79 rfl (lv_at hl 1 rfl) ?_
        refine lv_dup K.1 K.2.1 dX8_datum_80 rfl ?_
        refine gM_0_31 K hw kf_X8_188 dX8_datum_81 ?_
        refine lv_iconst (v := 1) K.1 K.2.1 dX8_datum_84 (by decide) ?_
        refine lv_iadd K.1 K.2.1 dX8_datum_85 ?_
        refine pM_0_31 K hw kf_X8_188 dX8_datum_86 (fun H locs hw => ?_)
        refine lv_aload_n K.1 K.2.1 dX8_datum_89 rfl (lv_at hl 1 rfl) ?_
        refine gM_0_30 K hw kf_X8_29 dX8_datum_90 ?_
        refine lv_iload_n K.1 K.2.1 dX8_datum_93 rfl (lv_at hl 0 rfl) ?_
        refine lv_iconst (v := 5) K.1 K.2.1 dX8_datum_94 (by decide) ?_
        refine lv_iadd K.1 K.2.1 dX8_datum_95 ?_
        refine lv_dup2_11 K.1 K.2.1 dX8_datum_96 rfl rfl ?_
        refine lM_7 K hw (by rw [ex2_44]; exact vDt (h3 c31) (bmg_29 (σ := σ0) hI).2 (by decide)) rfl dX8_datum_97 ?_
        refine lv_iconst (v := 1) K.1 K.2.1 dX8_datum_98 (by decide) ?_
        refine lv_iadd K.1 K.2.1 dX8_datum_99 ?_
        refine sM_7 K hw (by rw [ex2_44]; exact vDt (h3 c31) (bmg_29 (σ := σ0) hI).2 (by decide)) rfl dX8_datum_100 (fun H locs hw => ?_)
        exact J101 _ _ _ _ hw (lv_sub hl [1] rfl) (bmA (by decide) (bmQ_31 (bmA (by decide) (bmA (by decide) (bmS_19 hI))) (inc1 (bmg_31 (σ := σ0) hI).1 c65 rfl (by decide)).1 (inc1 (bmg_31 (σ := σ0) hI).1 c65 rfl (by decide)).2)) (by subst ex2_44; exact (Eq.trans (if_neg c15) (Eq.trans (if_pos c31) (Eq.trans (if_neg c65) rfl))))
  · refine lv_aload_n K.1 K.2.1 dX8_datum_18 rfl (lv_at hl 0 rfl) ?_
    refine lv_iload_n K.1 K.2.1 dX8_datum_19 rfl (lv_at hl 1 rfl) ?_
    refine caV K hw (c_X8_character l D a cA _ _ (bmS_19 hI) hp hb) hl.1 (tt_V km_X8_185 kI_X8_character ks_X8_character ki_X8 kC_X8_character) 0 (ci := 8) rfl rfl rfl (na := 1) rfl (by decide +kernel) ⟨rfl, rfl⟩ (by decide) ⟨Nat.zero_le _, Nat.zero_le _⟩ rfl (Nat.le_of_ble_eq_true rfl) dX8_datum_20 (fun H locs hw => ?_)
    obtain ⟨s20, es20, hw⟩ := nmM hw
    have hI20 : Bm s20 := by rw [es20]; exact bm_X8_character (bmS_19 hI)
    refine lv_goto (tgt := 101) K.1 K.2.1 dX8_datum_23 (by decide) ?_
    exact J101 _ _ _ _ hw (lv_sub hl [0] rfl) hI20 (by subst es20; exact (Eq.trans (if_pos c15) rfl))
def f_X8_is (σ0 : PS) (x1 : Int32) (x2 : Int32) (x3 : Int32) (x4 : Int32) : Int32 := (if (σ0.1 11) = x1 then (if (σ0.1 12) = x2 then (if x3 = x4 then 1 else 0) else 0) else 0)
abbrev rm_X8_is : Room := { frames := 0, cells := 0, slots := 0, locals := 0 }
theorem nz_X8_is {σ0 : PS} {x1 : Int32} {x2 : Int32} {x3 : Int32} {x4 : Int32} : NZ (f_X8_is σ0 x1 x2 x3 x4) := (nzI (nzI (nzI nz1 nz0) nz0) nz0)
set_option maxHeartbeats 4000000 in
set_option maxRecDepth 100000 in
theorem c_X8_is (l : Launch) (D : va_G) (a : Nat → Nat) (cA : Nat → ClassId) (σ0 : PS) (x1 : Int32) (x2 : Int32) (x3 : Int32) (x4 : Int32) : CI l yX8_is cX8_is 5 .boolean rm_X8_is D (mdT cA) [.ref (a 0), .int x1, .int x2, .int x3, .int x4] (mdW a cA σ0) (mdW a cA σ0) (f_X8_is σ0 x1 x2 x3 x4) := by
  refine en_i (by decide +kernel) (Nat.le_of_ble_eq_true rfl) nz_X8_is ?_
  intro p e s m args below meth c A ls Q K hw hl ret
  have hl : lv_has ls 5 [(0, .ref (a 0)), (1, .int x1), (2, .int x2), (3, .int x3), (4, .int x4)] := hl
  refine lv_aload_n K.1 K.2.1 dX8_is_0 rfl (lv_at hl 0 rfl) ?_
  refine gM_0_11 K hw kf_X8_149 dX8_is_1 ?_
  refine lv_iload_n K.1 K.2.1 dX8_is_4 rfl (lv_at hl 1 rfl) ?_
  refine lv_icmp_ne (tgt := 26) K.1 K.2.1 dX8_is_5 (by decide) (fun c5 => ?_) (fun c5 => ?_)
  · refine lv_iconst (v := 0) K.1 K.2.1 dX8_is_26 (by decide) ?_
    exact ret rfl (by exact (Eq.trans (if_neg c5) rfl)) hw dX8_is_27
  · refine lv_aload_n K.1 K.2.1 dX8_is_8 rfl (lv_at hl 0 rfl) ?_
    refine gM_0_12 K hw kf_X8_152 dX8_is_9 ?_
    refine lv_iload_n K.1 K.2.1 dX8_is_12 rfl (lv_at hl 2 rfl) ?_
    refine lv_icmp_ne (tgt := 26) K.1 K.2.1 dX8_is_13 (by decide) (fun c13 => ?_) (fun c13 => ?_)
    · refine lv_iconst (v := 0) K.1 K.2.1 dX8_is_26 (by decide) ?_
      exact ret rfl (by exact (Eq.trans (if_pos c5) (Eq.trans (if_neg c13) rfl))) hw dX8_is_27
    · refine lv_iload_n K.1 K.2.1 dX8_is_16 rfl (lv_at hl 3 rfl) ?_
      refine lv_iload K.1 K.2.1 dX8_is_17 (lv_at hl 4 rfl) ?_
      refine lv_icmp_ne (tgt := 26) K.1 K.2.1 dX8_is_19 (by decide) (fun c19 => ?_) (fun c19 => ?_)
      · refine lv_iconst (v := 0) K.1 K.2.1 dX8_is_26 (by decide) ?_
        exact ret rfl (by exact (Eq.trans (if_pos c5) (Eq.trans (if_pos c13) (Eq.trans (if_neg c19) rfl)))) hw dX8_is_27
      · refine lv_iconst (v := 1) K.1 K.2.1 dX8_is_22 (by decide) ?_
        refine lv_goto (tgt := 27) K.1 K.2.1 dX8_is_23 (by decide) ?_
        exact ret rfl (by exact (Eq.trans (if_pos c5) (Eq.trans (if_pos c13) (Eq.trans (if_pos c19) rfl)))) hw dX8_is_27
def f_X8_stack (σ0 : PS) (x1 : Int32) : PS := let x2_7 : Int32 := (σ0.2.1 0 12); (if x1 = 0 then (if 20 ≤ x2_7 then (if x1 = 1 then (if x2_7 ≤ 0 then σ0 else let s99 : PS := f_X8_setX (upA σ0 0 12 ((σ0.2.1 0 12) - 1)) (Int32.toInt64 ((upA σ0 0 12 ((σ0.2.1 0 12) - 1)).2.1 0 (Int32.toNatClampNeg (11 + (2 * x2_7))))); let s115 : PS := f_X8_setY s99 (Int32.toInt64 (s99.2.1 0 (Int32.toNatClampNeg (12 + (2 * x2_7))))); s115) else σ0) else (upA (upA (upA σ0 0 (Int32.toNatClampNeg (13 + (2 * x2_7))) (σ0.2.1 0 0)) 0 (Int32.toNatClampNeg (14 + (2 * x2_7))) ((upA σ0 0 (Int32.toNatClampNeg (13 + (2 * x2_7))) (σ0.2.1 0 0)).2.1 0 1)) 0 12 (((upA (upA σ0 0 (Int32.toNatClampNeg (13 + (2 * x2_7))) (σ0.2.1 0 0)) 0 (Int32.toNatClampNeg (14 + (2 * x2_7))) ((upA σ0 0 (Int32.toNatClampNeg (13 + (2 * x2_7))) (σ0.2.1 0 0)).2.1 0 1)).2.1 0 12) + 1))) else (if x1 = 1 then (if x2_7 ≤ 0 then σ0 else let s99 : PS := f_X8_setX (upA σ0 0 12 ((σ0.2.1 0 12) - 1)) (Int32.toInt64 ((upA σ0 0 12 ((σ0.2.1 0 12) - 1)).2.1 0 (Int32.toNatClampNeg (11 + (2 * x2_7))))); let s115 : PS := f_X8_setY s99 (Int32.toInt64 (s99.2.1 0 (Int32.toNatClampNeg (12 + (2 * x2_7))))); s115) else σ0))
theorem bm_X8_stack {σ0 : PS} {x1 : Int32} (hI : Bm σ0) : Bm (f_X8_stack σ0 x1) := (bxI (fun c9 => (bxI (fun c15 => (bxI (fun c68 => (bxI (fun c72 => hI) (fun c72 => (bm_X8_setY (bm_X8_setX (by first | exact bm_pop hI c72 | (subst ex2_7; exact bm_pop hI c72))))))) (fun c68 => hI))) (fun c15 => (bm_stk hI c15)))) (fun c9 => (bxI (fun c68 => (bxI (fun c72 => hI) (fun c72 => (bm_X8_setY (bm_X8_setX (by first | exact bm_pop hI c72 | (subst ex2_7; exact bm_pop hI c72))))))) (fun c68 => hI))))
theorem pm_X8_stack {n : Int} {σ0 : PS} {x1 : Int32} (hP : Pm n σ0) : Pm (n) (f_X8_stack σ0 x1) := (bxI (fun c9 => (bxI (fun c15 => (bxI (fun c68 => (bxI (fun c72 => hP) (fun c72 => (pm_X8_setY (pm_X8_setX hP))))) (fun c68 => hP))) (fun c15 => hP))) (fun c9 => (bxI (fun c68 => (bxI (fun c72 => hP) (fun c72 => (pm_X8_setY (pm_X8_setX hP))))) (fun c68 => hP))))
abbrev rm_X8_stack : Room := { frames := 2, cells := 0, slots := 0, locals := 44 }
set_option maxHeartbeats 4000000 in
set_option maxRecDepth 100000 in
theorem c_X8_stack (l : Launch) (D : va_G) (a : Nat → Nat) (cA : Nat → ClassId) (σ0 : PS) (x1 : Int32) (hI : Bm σ0) : CV l yX8_stack cX8_stack 3 rm_X8_stack D (mdT cA) [.ref (a 0), .int x1] (mdW a cA σ0) (mdW a cA (f_X8_stack σ0 x1)) := by
  refine en_v (by decide +kernel) (Nat.le_of_ble_eq_true rfl) ?_
  intro p e s m args below meth c A ls Q K hw hl ret
  have hl : lv_has ls 3 [(0, .ref (a 0)), (1, .int x1)] := hl
  refine lv_aload_n K.1 K.2.1 dX8_stack_0 rfl (lv_at hl 0 rfl) ?_
  refine gM_0_1 K hw kf_X8_7 dX8_stack_1 ?_
  refine lv_bipush (v := 12) K.1 K.2.1 dX8_stack_4 (by decide) ?_
  refine lM_1 K hw (vi_12 (by decide)) cl_12 dX8_stack_6 ?_
  refine lv_topi (fun x2_7 ex2_7 => ?_)
  refine lv_istore_n (lv' := [(2, .int x2_7), (0, .ref (a 0)), (1, .int x1)]) K.1 K.2.1 dX8_stack_7 rfl hl (by decide) rfl (fun ls hl => ?_)
  refine lv_iload_n K.1 K.2.1 dX8_stack_8 rfl (lv_at hl 2 rfl) ?_
  refine lv_if_ne (tgt := 66) K.1 K.2.1 dX8_stack_9 (by decide) (fun c9 => ?_) (fun c9 => ?_)
  · refine lv_iload_n K.1 K.2.1 dX8_stack_66 rfl (lv_at hl 2 rfl) ?_
    refine lv_iconst (v := 1) K.1 K.2.1 dX8_stack_67 (by decide) ?_
    refine lv_icmp_ne (tgt := 118) K.1 K.2.1 dX8_stack_68 (by decide) (fun c68 => ?_) (fun c68 => ?_)
    · exact ret (congrArg (mdW a cA) (by subst ex2_7; exact (Eq.trans (if_neg c9) (Eq.trans (if_neg c68) rfl)))) hw dX8_stack_118
    · refine lv_iload_n K.1 K.2.1 dX8_stack_71 rfl (lv_at hl 0 rfl) ?_
      refine lv_if_le (tgt := 118) K.1 K.2.1 dX8_stack_72 (by decide) (fun c72 => ?_) (fun c72 => ?_)
      · exact ret (congrArg (mdW a cA) (by subst ex2_7; exact (Eq.trans (if_neg c9) (Eq.trans (if_pos c68) (Eq.trans (if_pos c72) rfl))))) hw dX8_stack_118
      · refine lv_aload_n K.1 K.2.1 dX8_stack_75 rfl (lv_at hl 1 rfl) ?_
        refine gM_0_1 K hw kf_X8_7 dX8_stack_76 ?_
        refine lv_bipush (v := 12) K.1 K.2.1 dX8_stack_79 (by decide) ?_
        refine lv_dup2_11 K.1 K.2.1 dX8_stack_81 rfl rfl ?_
        refine lM_1 K hw (vi_12 (by decide)) cl_12 dX8_stack_82 ?_
        refine lv_iconst (v := 1) K.1 K.2.1 dX8_stack_83 (by decide) ?_
        refine lv_isub K.1 K.2.1 dX8_stack_84 ?_
        refine sM_1 K hw (vi_12 (by decide)) cl_12 dX8_stack_85 (fun H locs hw => ?_)
        refine lv_aload_n K.1 K.2.1 dX8_stack_86 rfl (lv_at hl 1 rfl) ?_
        refine lv_aload_n K.1 K.2.1 dX8_stack_87 rfl (lv_at hl 1 rfl) ?_
        refine gM_0_1 K hw kf_X8_7 dX8_stack_88 ?_
        refine lv_bipush (v := 11) K.1 K.2.1 dX8_stack_91 (by decide) ?_
        refine lv_iconst (v := 2) K.1 K.2.1 dX8_stack_93 (by decide) ?_
        refine lv_iload_n K.1 K.2.1 dX8_stack_94 rfl (lv_at hl 0 rfl) ?_
        refine lv_imul K.1 K.2.1 dX8_stack_95 ?_
        refine lv_iadd K.1 K.2.1 dX8_stack_96 ?_
        refine lM_1 K hw (by rw [ex2_7]; exact vSt 11 rfl (by decide) (by have := bmt_12 (σ := σ0) hI; omega) (by have := bmt_12 (σ := σ0) hI; omega)) rfl dX8_stack_97 ?_
        refine lv_i2l K.1 K.2.1 dX8_stack_98 rfl ?_
        refine caV K hw (c_X8_setX l D a cA _ _) hl.1 (tt_V km_X8_77 kI_X8_setX ks_X8_setX ki_X8 kC_X8_setX) 0 (ci := 8) rfl rfl rfl (na := 1) rfl (by decide +kernel) ⟨rfl, rfl⟩ (by decide) ⟨Nat.zero_le _, Nat.zero_le _⟩ rfl (Nat.le_of_ble_eq_true rfl) dX8_stack_99 (fun H locs hw => ?_)
        obtain ⟨s99, es99, hw⟩ := nmM hw
        have hI99 : Bm s99 := by rw [es99]; exact bm_X8_setX (by first | exact bm_pop hI c72 | (subst ex2_7; exact bm_pop hI c72))
        refine lv_aload_n K.1 K.2.1 dX8_stack_102 rfl (lv_at hl 1 rfl) ?_
        refine lv_aload_n K.1 K.2.1 dX8_stack_103 rfl (lv_at hl 1 rfl) ?_
        refine gM_0_1 K hw kf_X8_7 dX8_stack_104 ?_
        refine lv_bipush (v := 12) K.1 K.2.1 dX8_stack_107 (by decide) ?_
        refine lv_iconst (v := 2) K.1 K.2.1 dX8_stack_109 (by decide) ?_
        refine lv_iload_n K.1 K.2.1 dX8_stack_110 rfl (lv_at hl 0 rfl) ?_
        refine lv_imul K.1 K.2.1 dX8_stack_111 ?_
        refine lv_iadd K.1 K.2.1 dX8_stack_112 ?_
        refine lM_1 K hw (by rw [ex2_7]; exact vSt 12 rfl (by decide) (by have := bmt_12 (σ := σ0) hI; omega) (by have := bmt_12 (σ := σ0) hI; omega)) rfl dX8_stack_113 ?_
        refine lv_i2l K.1 K.2.1 dX8_stack_114 rfl ?_
        refine caV K hw (c_X8_setY l D a cA _ _) hl.1 (tt_V km_X8_85 kI_X8_setY ks_X8_setY ki_X8 kC_X8_setY) 0 (ci := 8) rfl rfl rfl (na := 1) rfl (by decide +kernel) ⟨rfl, rfl⟩ (by decide) ⟨Nat.zero_le _, Nat.zero_le _⟩ rfl (Nat.le_of_ble_eq_true rfl) dX8_stack_115 (fun H locs hw => ?_)
        obtain ⟨s115, es115, hw⟩ := nmM hw
        have hI115 : Bm s115 := by rw [es115]; exact bm_X8_setY hI99
        exact ret (congrArg (mdW a cA) (by subst es115 es99 ex2_7; exact (Eq.trans (if_neg c9) (Eq.trans (if_pos c68) (Eq.trans (if_neg c72) rfl))))) hw dX8_stack_118
  · refine lv_iload_n K.1 K.2.1 dX8_stack_12 rfl (lv_at hl 0 rfl) ?_
    refine lv_bipush (v := 20) K.1 K.2.1 dX8_stack_13 (by decide) ?_
    refine lv_icmp_ge (tgt := 66) K.1 K.2.1 dX8_stack_15 (by decide) (fun c15 => ?_) (fun c15 => ?_)
    · refine lv_iload_n K.1 K.2.1 dX8_stack_66 rfl (lv_at hl 2 rfl) ?_
      refine lv_iconst (v := 1) K.1 K.2.1 dX8_stack_67 (by decide) ?_
      refine lv_icmp_ne (tgt := 118) K.1 K.2.1 dX8_stack_68 (by decide) (fun c68 => ?_) (fun c68 => ?_)
      · exact ret (congrArg (mdW a cA) (by subst ex2_7; exact (Eq.trans (if_pos c9) (Eq.trans (if_pos c15) (Eq.trans (if_neg c68) rfl))))) hw dX8_stack_118
      · refine lv_iload_n K.1 K.2.1 dX8_stack_71 rfl (lv_at hl 0 rfl) ?_
        refine lv_if_le (tgt := 118) K.1 K.2.1 dX8_stack_72 (by decide) (fun c72 => ?_) (fun c72 => ?_)
        · exact ret (congrArg (mdW a cA) (by subst ex2_7; exact (Eq.trans (if_pos c9) (Eq.trans (if_pos c15) (Eq.trans (if_pos c68) (Eq.trans (if_pos c72) rfl)))))) hw dX8_stack_118
        · refine lv_aload_n K.1 K.2.1 dX8_stack_75 rfl (lv_at hl 1 rfl) ?_
          refine gM_0_1 K hw kf_X8_7 dX8_stack_76 ?_
          refine lv_bipush (v := 12) K.1 K.2.1 dX8_stack_79 (by decide) ?_
          refine lv_dup2_11 K.1 K.2.1 dX8_stack_81 rfl rfl ?_
          refine lM_1 K hw (vi_12 (by decide)) cl_12 dX8_stack_82 ?_
          refine lv_iconst (v := 1) K.1 K.2.1 dX8_stack_83 (by decide) ?_
          refine lv_isub K.1 K.2.1 dX8_stack_84 ?_
          refine sM_1 K hw (vi_12 (by decide)) cl_12 dX8_stack_85 (fun H locs hw => ?_)
          refine lv_aload_n K.1 K.2.1 dX8_stack_86 rfl (lv_at hl 1 rfl) ?_
          refine lv_aload_n K.1 K.2.1 dX8_stack_87 rfl (lv_at hl 1 rfl) ?_
          refine gM_0_1 K hw kf_X8_7 dX8_stack_88 ?_
          refine lv_bipush (v := 11) K.1 K.2.1 dX8_stack_91 (by decide) ?_
          refine lv_iconst (v := 2) K.1 K.2.1 dX8_stack_93 (by decide) ?_
          refine lv_iload_n K.1 K.2.1 dX8_stack_94 rfl (lv_at hl 0 rfl) ?_
          refine lv_imul K.1 K.2.1 dX8_stack_95 ?_
          refine lv_iadd K.1 K.2.1 dX8_stack_96 ?_
          refine lM_1 K hw (by rw [ex2_7]; exact vSt 11 rfl (by decide) (by have := bmt_12 (σ := σ0) hI; omega) (by have := bmt_12 (σ := σ0) hI; omega)) rfl dX8_stack_97 ?_
          refine lv_i2l K.1 K.2.1 dX8_stack_98 rfl ?_
          refine caV K hw (c_X8_setX l D a cA _ _) hl.1 (tt_V km_X8_77 kI_X8_setX ks_X8_setX ki_X8 kC_X8_setX) 0 (ci := 8) rfl rfl rfl (na := 1) rfl (by decide +kernel) ⟨rfl, rfl⟩ (by decide) ⟨Nat.zero_le _, Nat.zero_le _⟩ rfl (Nat.le_of_ble_eq_true rfl) dX8_stack_99 (fun H locs hw => ?_)
          obtain ⟨s99, es99, hw⟩ := nmM hw
          have hI99 : Bm s99 := by rw [es99]; exact bm_X8_setX (by first | exact bm_pop hI c72 | (subst ex2_7; exact bm_pop hI c72))
          refine lv_aload_n K.1 K.2.1 dX8_stack_102 rfl (lv_at hl 1 rfl) ?_
          refine lv_aload_n K.1 K.2.1 dX8_stack_103 rfl (lv_at hl 1 rfl) ?_
          refine gM_0_1 K hw kf_X8_7 dX8_stack_104 ?_
          refine lv_bipush (v := 12) K.1 K.2.1 dX8_stack_107 (by decide) ?_
          refine lv_iconst (v := 2) K.1 K.2.1 dX8_stack_109 (by decide) ?_
          refine lv_iload_n K.1 K.2.1 dX8_stack_110 rfl (lv_at hl 0 rfl) ?_
          refine lv_imul K.1 K.2.1 dX8_stack_111 ?_
          refine lv_iadd K.1 K.2.1 dX8_stack_112 ?_
          refine lM_1 K hw (by rw [ex2_7]; exact vSt 12 rfl (by decide) (by have := bmt_12 (σ := σ0) hI; omega) (by have := bmt_12 (σ := σ0) hI; omega)) rfl dX8_stack_113 ?_
          refine lv_i2l K.1 K.2.1 dX8_stack_114 rfl ?_
          refine caV K hw (c_X8_setY l D a cA _ _) hl.1 (tt_V km_X8_85 kI_X8_setY ks_X8_setY ki_X8 kC_X8_setY) 0 (ci := 8) rfl rfl rfl (na := 1) rfl (by decide +kernel) ⟨rfl, rfl⟩ (by decide) ⟨Nat.zero_le _, Nat.zero_le _⟩ rfl (Nat.le_of_ble_eq_true rfl) dX8_stack_115 (fun H locs hw => ?_)
          obtain ⟨s115, es115, hw⟩ := nmM hw
          have hI115 : Bm s115 := by rw [es115]; exact bm_X8_setY hI99
          exact ret (congrArg (mdW a cA) (by subst es115 es99 ex2_7; exact (Eq.trans (if_pos c9) (Eq.trans (if_pos c15) (Eq.trans (if_pos c68) (Eq.trans (if_neg c72) rfl)))))) hw dX8_stack_118
    · refine lv_aload_n K.1 K.2.1 dX8_stack_18 rfl (lv_at hl 1 rfl) ?_
      refine gM_0_1 K hw kf_X8_7 dX8_stack_19 ?_
      refine lv_bipush (v := 13) K.1 K.2.1 dX8_stack_22 (by decide) ?_
      refine lv_iconst (v := 2) K.1 K.2.1 dX8_stack_24 (by decide) ?_
      refine lv_iload_n K.1 K.2.1 dX8_stack_25 rfl (lv_at hl 0 rfl) ?_
      refine lv_imul K.1 K.2.1 dX8_stack_26 ?_
      refine lv_iadd K.1 K.2.1 dX8_stack_27 ?_
      refine lv_aload_n K.1 K.2.1 dX8_stack_28 rfl (lv_at hl 1 rfl) ?_
      refine gM_0_1 K hw kf_X8_7 dX8_stack_29 ?_
      refine lv_iconst (v := 0) K.1 K.2.1 dX8_stack_32 (by decide) ?_
      refine lM_1 K hw (vi_0 (by decide)) cl_0 dX8_stack_33 ?_
      refine sM_1 K hw (by rw [ex2_7]; exact vSt 13 rfl (by decide) (by have := dep2 (bmt_12 (σ := σ0) hI) (ex2_7 ▸ c15); omega) (by have := dep2 (bmt_12 (σ := σ0) hI) (ex2_7 ▸ c15); omega)) rfl dX8_stack_34 (fun H locs hw => ?_)
      refine lv_aload_n K.1 K.2.1 dX8_stack_35 rfl (lv_at hl 1 rfl) ?_
      refine gM_0_1 K hw kf_X8_7 dX8_stack_36 ?_
      refine lv_bipush (v := 14) K.1 K.2.1 dX8_stack_39 (by decide) ?_
      refine lv_iconst (v := 2) K.1 K.2.1 dX8_stack_41 (by decide) ?_
      refine lv_iload_n K.1 K.2.1 dX8_stack_42 rfl (lv_at hl 0 rfl) ?_
      refine lv_imul K.1 K.2.1 dX8_stack_43 ?_
      refine lv_iadd K.1 K.2.1 dX8_stack_44 ?_
      refine lv_aload_n K.1 K.2.1 dX8_stack_45 rfl (lv_at hl 1 rfl) ?_
      refine gM_0_1 K hw kf_X8_7 dX8_stack_46 ?_
      refine lv_iconst (v := 1) K.1 K.2.1 dX8_stack_49 (by decide) ?_
      refine lM_1 K hw (vi_1 (by decide)) cl_1 dX8_stack_50 ?_
      refine sM_1 K hw (by rw [ex2_7]; exact vSt 14 rfl (by decide) (by have := dep2 (bmt_12 (σ := σ0) hI) (ex2_7 ▸ c15); omega) (by have := dep2 (bmt_12 (σ := σ0) hI) (ex2_7 ▸ c15); omega)) rfl dX8_stack_51 (fun H locs hw => ?_)
      refine lv_aload_n K.1 K.2.1 dX8_stack_52 rfl (lv_at hl 1 rfl) ?_
      refine gM_0_1 K hw kf_X8_7 dX8_stack_53 ?_
      refine lv_bipush (v := 12) K.1 K.2.1 dX8_stack_56 (by decide) ?_
      refine lv_dup2_11 K.1 K.2.1 dX8_stack_58 rfl rfl ?_
      refine lM_1 K hw (vi_12 (by decide)) cl_12 dX8_stack_59 ?_
      refine lv_iconst (v := 1) K.1 K.2.1 dX8_stack_60 (by decide) ?_
      refine lv_iadd K.1 K.2.1 dX8_stack_61 ?_
      refine sM_1 K hw (vi_12 (by decide)) cl_12 dX8_stack_62 (fun H locs hw => ?_)
      refine lv_goto (tgt := 118) K.1 K.2.1 dX8_stack_63 (by decide) ?_
      exact ret (congrArg (mdW a cA) (by subst ex2_7; exact (Eq.trans (if_pos c9) (Eq.trans (if_neg c15) rfl)))) hw dX8_stack_118
def g_X8_cursor_261 (σ : PS) (y3 : Int64) (y7 : Int64) (k0 : Int32) : PS × Int32 := let s271 : PS := f_X8_setY σ ((Int32.toInt64 k0) + ((y3 * y7) / 10000)); (s271, 1)
def g_X8_cursor_162 (σ : PS) (y1 : Int32) (y2 : Int32) (y3 : Int64) (y5 : Int32) (k0 : Int64) : PS × Int32 := (if (σ.1 14) = 0 then (if y5 = 0 then (if y1 = 82 then (g_X8_cursor_261 σ y3 k0 (f_X8_home σ)) else (g_X8_cursor_261 σ y3 k0 (σ.2.1 0 4))) else let s235 : PS := f_X8_setX σ ((y3 * k0) / 10000); (s235, 1)) else let x9_180 : Int64 := (((Int32.toInt64 y2) * k0) / 10000); (if y5 = 0 then let s215 : PS := f_X8_setY σ ((Int32.toInt64 (σ.2.1 0 1)) + x9_180); (s215, 1) else let s198 : PS := f_X8_setX σ ((Int32.toInt64 (σ.2.1 0 0)) + x9_180); (s198, 1)))
def g_X8_cursor_110 (σ : PS) (y1 : Int32) (y2 : Int32) (y3 : Int64) (y5 : Int32) : PS × Int32 := (if y1 = 67 then (g_X8_cursor_162 σ y1 y2 y3 y5 (Int32.toInt64 (σ.2.1 0 6))) else (if y1 = 82 then (g_X8_cursor_162 σ y1 y2 y3 y5 (Int32.toInt64 (σ.2.1 0 7))) else (if (σ.1 11) = 42 then (g_X8_cursor_162 σ y1 y2 y3 y5 24) else (g_X8_cursor_162 σ y1 y2 y3 y5 10))))
def g_X8_cursor_96 (σ : PS) (y1 : Int32) (y2 : Int32) (y3 : Int64) (y5 : Int32) (k0 : Int32) : PS × Int32 := (if y5 = 0 then (if k0 = 0 then (σ, 0) else (g_X8_cursor_110 σ y1 y2 y3 y5)) else (g_X8_cursor_110 σ y1 y2 y3 y5))
def g_X8_cursor_91 (σ : PS) (y1 : Int32) (y2 : Int32) (y3 : Int64) (y5 : Int32) : PS × Int32 := (g_X8_cursor_96 σ y1 y2 y3 y5 1)
def g_X8_cursor_47 (σ : PS) (y1 : Int32) (y2 : Int32) (y3 : Int64) (k0 : Int32) : PS × Int32 := (if (f_X8_is σ 38 97 82 y1) = 0 then (if (f_X8_is σ 38 97 86 y1) = 0 then (if (f_X8_is σ 42 112 89 y1) = 0 then (g_X8_cursor_96 σ y1 y2 y3 k0 0) else (g_X8_cursor_91 σ y1 y2 y3 k0)) else (g_X8_cursor_91 σ y1 y2 y3 k0)) else (g_X8_cursor_91 σ y1 y2 y3 k0))
def g_X8_cursor_42 (σ : PS) (y1 : Int32) (y2 : Int32) (y3 : Int64) : PS × Int32 := (g_X8_cursor_47 σ y1 y2 y3 1)
def f_X8_cursor (σ0 : PS) (x1 : Int32) (x2 : Int32) (x3 : Int64) : PS × Int32 := (if (f_X8_is σ0 38 97 67 x1) = 0 then (if (f_X8_is σ0 38 97 72 x1) = 0 then (if (f_X8_is σ0 42 112 88 x1) = 0 then (g_X8_cursor_47 σ0 x1 x2 x3 0) else (g_X8_cursor_42 σ0 x1 x2 x3)) else (g_X8_cursor_42 σ0 x1 x2 x3)) else (g_X8_cursor_42 σ0 x1 x2 x3))
theorem bm_g_X8_cursor_261 {σ : PS} {y3 : Int64} {y7 : Int64} {k0 : Int32} (hI : Bm σ) : Bm (g_X8_cursor_261 σ y3 y7 k0).1 := (bm_X8_setY hI)
theorem bm_g_X8_cursor_162 {σ : PS} {y1 : Int32} {y2 : Int32} {y3 : Int64} {y5 : Int32} {k0 : Int64} (hI : Bm σ) : Bm (g_X8_cursor_162 σ y1 y2 y3 y5 k0).1 := (bxI2 (fun c168 => (bxI2 (fun c223 => (bxI2 (fun c245 => (bm_g_X8_cursor_261 hI)) (fun c245 => (bm_g_X8_cursor_261 hI)))) (fun c223 => (bm_X8_setX hI)))) (fun c168 => (bxI2 (fun c184 => (bm_X8_setY hI)) (fun c184 => (bm_X8_setX hI)))))
theorem bm_g_X8_cursor_110 {σ : PS} {y1 : Int32} {y2 : Int32} {y3 : Int64} {y5 : Int32} (hI : Bm σ) : Bm (g_X8_cursor_110 σ y1 y2 y3 y5).1 := (bxI2 (fun c113 => (bm_g_X8_cursor_162 hI)) (fun c113 => (bxI2 (fun c130 => (bm_g_X8_cursor_162 hI)) (fun c130 => (bxI2 (fun c150 => (bm_g_X8_cursor_162 hI)) (fun c150 => (bm_g_X8_cursor_162 hI)))))))
theorem bm_g_X8_cursor_96 {σ : PS} {y1 : Int32} {y2 : Int32} {y3 : Int64} {y5 : Int32} {k0 : Int32} (hI : Bm σ) : Bm (g_X8_cursor_96 σ y1 y2 y3 y5 k0).1 := (bxI2 (fun c100 => (bxI2 (fun c105 => hI) (fun c105 => (bm_g_X8_cursor_110 hI)))) (fun c100 => (bm_g_X8_cursor_110 hI)))
theorem bm_g_X8_cursor_91 {σ : PS} {y1 : Int32} {y2 : Int32} {y3 : Int64} {y5 : Int32} (hI : Bm σ) : Bm (g_X8_cursor_91 σ y1 y2 y3 y5).1 := (bm_g_X8_cursor_96 hI)
theorem bm_g_X8_cursor_47 {σ : PS} {y1 : Int32} {y2 : Int32} {y3 : Int64} {k0 : Int32} (hI : Bm σ) : Bm (g_X8_cursor_47 σ y1 y2 y3 k0).1 := (bxI2 (fun c60 => (bxI2 (fun c74 => (bxI2 (fun c88 => (bm_g_X8_cursor_96 hI)) (fun c88 => (bm_g_X8_cursor_91 hI)))) (fun c74 => (bm_g_X8_cursor_91 hI)))) (fun c60 => (bm_g_X8_cursor_91 hI)))
theorem bm_g_X8_cursor_42 {σ : PS} {y1 : Int32} {y2 : Int32} {y3 : Int64} (hI : Bm σ) : Bm (g_X8_cursor_42 σ y1 y2 y3).1 := (bm_g_X8_cursor_47 hI)
theorem bm_X8_cursor {σ0 : PS} {x1 : Int32} {x2 : Int32} {x3 : Int64} (hI : Bm σ0) : Bm (f_X8_cursor σ0 x1 x2 x3).1 := (bxI2 (fun c11 => (bxI2 (fun c25 => (bxI2 (fun c39 => (bm_g_X8_cursor_47 hI)) (fun c39 => (bm_g_X8_cursor_42 hI)))) (fun c25 => (bm_g_X8_cursor_42 hI)))) (fun c11 => (bm_g_X8_cursor_42 hI)))
theorem pm_g_X8_cursor_261 {n : Int} {σ : PS} {y3 : Int64} {y7 : Int64} {k0 : Int32} (hP : Pm n σ) : Pm (n) (g_X8_cursor_261 σ y3 y7 k0).1 := (pm_X8_setY hP)
theorem pm_g_X8_cursor_162 {n : Int} {σ : PS} {y1 : Int32} {y2 : Int32} {y3 : Int64} {y5 : Int32} {k0 : Int64} (hP : Pm n σ) : Pm (n) (g_X8_cursor_162 σ y1 y2 y3 y5 k0).1 := (bxI2 (fun c168 => (bxI2 (fun c223 => (bxI2 (fun c245 => (pm_g_X8_cursor_261 hP)) (fun c245 => (pm_g_X8_cursor_261 hP)))) (fun c223 => (pm_X8_setX hP)))) (fun c168 => (bxI2 (fun c184 => (pm_X8_setY hP)) (fun c184 => (pm_X8_setX hP)))))
theorem pm_g_X8_cursor_110 {n : Int} {σ : PS} {y1 : Int32} {y2 : Int32} {y3 : Int64} {y5 : Int32} (hP : Pm n σ) : Pm (n) (g_X8_cursor_110 σ y1 y2 y3 y5).1 := (bxI2 (fun c113 => (pm_g_X8_cursor_162 hP)) (fun c113 => (bxI2 (fun c130 => (pm_g_X8_cursor_162 hP)) (fun c130 => (bxI2 (fun c150 => (pm_g_X8_cursor_162 hP)) (fun c150 => (pm_g_X8_cursor_162 hP)))))))
theorem pm_g_X8_cursor_96 {n : Int} {σ : PS} {y1 : Int32} {y2 : Int32} {y3 : Int64} {y5 : Int32} {k0 : Int32} (hP : Pm n σ) : Pm (n) (g_X8_cursor_96 σ y1 y2 y3 y5 k0).1 := (bxI2 (fun c100 => (bxI2 (fun c105 => hP) (fun c105 => (pm_g_X8_cursor_110 hP)))) (fun c100 => (pm_g_X8_cursor_110 hP)))
theorem pm_g_X8_cursor_91 {n : Int} {σ : PS} {y1 : Int32} {y2 : Int32} {y3 : Int64} {y5 : Int32} (hP : Pm n σ) : Pm (n) (g_X8_cursor_91 σ y1 y2 y3 y5).1 := (pm_g_X8_cursor_96 hP)
theorem pm_g_X8_cursor_47 {n : Int} {σ : PS} {y1 : Int32} {y2 : Int32} {y3 : Int64} {k0 : Int32} (hP : Pm n σ) : Pm (n) (g_X8_cursor_47 σ y1 y2 y3 k0).1 := (bxI2 (fun c60 => (bxI2 (fun c74 => (bxI2 (fun c88 => (pm_g_X8_cursor_96 hP)) (fun c88 => (pm_g_X8_cursor_91 hP)))) (fun c74 => (pm_g_X8_cursor_91 hP)))) (fun c60 => (pm_g_X8_cursor_91 hP)))
theorem pm_g_X8_cursor_42 {n : Int} {σ : PS} {y1 : Int32} {y2 : Int32} {y3 : Int64} (hP : Pm n σ) : Pm (n) (g_X8_cursor_42 σ y1 y2 y3).1 := (pm_g_X8_cursor_47 hP)
theorem pm_X8_cursor {n : Int} {σ0 : PS} {x1 : Int32} {x2 : Int32} {x3 : Int64} (hP : Pm n σ0) : Pm (n) (f_X8_cursor σ0 x1 x2 x3).1 := (bxI2 (fun c11 => (bxI2 (fun c25 => (bxI2 (fun c39 => (pm_g_X8_cursor_47 hP)) (fun c39 => (pm_g_X8_cursor_42 hP)))) (fun c25 => (pm_g_X8_cursor_42 hP)))) (fun c11 => (pm_g_X8_cursor_42 hP)))
abbrev rm_X8_cursor : Room := { frames := 2, cells := 0, slots := 0, locals := 44 }
theorem nz_g_X8_cursor_261 {σ : PS} {y3 : Int64} {y7 : Int64} {k0 : Int32} : NZ (g_X8_cursor_261 σ y3 y7 k0).2 := nz1
theorem nz_g_X8_cursor_162 {σ : PS} {y1 : Int32} {y2 : Int32} {y3 : Int64} {y5 : Int32} {k0 : Int64} : NZ (g_X8_cursor_162 σ y1 y2 y3 y5 k0).2 := (nzI2 (nzI2 (nzI2 nz_g_X8_cursor_261 nz_g_X8_cursor_261) nz1) (nzI2 nz1 nz1))
theorem nz_g_X8_cursor_110 {σ : PS} {y1 : Int32} {y2 : Int32} {y3 : Int64} {y5 : Int32} : NZ (g_X8_cursor_110 σ y1 y2 y3 y5).2 := (nzI2 nz_g_X8_cursor_162 (nzI2 nz_g_X8_cursor_162 (nzI2 nz_g_X8_cursor_162 nz_g_X8_cursor_162)))
theorem nz_g_X8_cursor_96 {σ : PS} {y1 : Int32} {y2 : Int32} {y3 : Int64} {y5 : Int32} {k0 : Int32} : NZ (g_X8_cursor_96 σ y1 y2 y3 y5 k0).2 := (nzI2 (nzI2 nz0 nz_g_X8_cursor_110) nz_g_X8_cursor_110)
theorem nz_g_X8_cursor_91 {σ : PS} {y1 : Int32} {y2 : Int32} {y3 : Int64} {y5 : Int32} : NZ (g_X8_cursor_91 σ y1 y2 y3 y5).2 := nz_g_X8_cursor_96
theorem nz_g_X8_cursor_47 {σ : PS} {y1 : Int32} {y2 : Int32} {y3 : Int64} {k0 : Int32} : NZ (g_X8_cursor_47 σ y1 y2 y3 k0).2 := (nzI2 (nzI2 (nzI2 nz_g_X8_cursor_96 nz_g_X8_cursor_91) nz_g_X8_cursor_91) nz_g_X8_cursor_91)
theorem nz_g_X8_cursor_42 {σ : PS} {y1 : Int32} {y2 : Int32} {y3 : Int64} : NZ (g_X8_cursor_42 σ y1 y2 y3).2 := nz_g_X8_cursor_47
theorem nz_X8_cursor {σ0 : PS} {x1 : Int32} {x2 : Int32} {x3 : Int64} : NZ (f_X8_cursor σ0 x1 x2 x3).2 := (nzI2 (nzI2 (nzI2 nz_g_X8_cursor_47 nz_g_X8_cursor_42) nz_g_X8_cursor_42) nz_g_X8_cursor_42)
set_option maxHeartbeats 4000000 in
set_option maxRecDepth 100000 in
theorem c_X8_cursor (l : Launch) (D : va_G) (a : Nat → Nat) (cA : Nat → ClassId) (σ0 : PS) (x1 : Int32) (x2 : Int32) (x3 : Int64) : CI l yX8_cursor cX8_cursor 11 .boolean rm_X8_cursor D (mdT cA) [.ref (a 0), .int x1, .int x2, .long x3] (mdW a cA σ0) (mdW a cA (f_X8_cursor σ0 x1 x2 x3).1) (f_X8_cursor σ0 x1 x2 x3).2 := by
  refine en_i (by decide +kernel) (Nat.le_of_ble_eq_true rfl) nz_X8_cursor ?_
  intro p e s m args below meth c A ls Q K hw hl ret
  have hl : lv_has ls 11 [(0, .ref (a 0)), (1, .int x1), (2, .int x2), (3, .long x3)] := hl
  have J261 : ∀ (σ : PS) (y3 : Int64) (y7 : Int64) (k0 : Int32) (H : Heap) (locs : List Loc) (ls : Array Slot), WD D A s.heap (mdW a cA σ) H locs → lv_has ls 11 [(3, .long y3), (7, .long y7)] → f_X8_cursor σ0 x1 x2 x3 = g_X8_cursor_261 σ y3 y7 k0 → W p l e rm_X8_cursor s m args below meth c H locs 0 0 Q (F0 m 261 ls [.int k0, .ref (a 0)]) := by
    intro σ y3 y7 k0 H locs ls hw hl e0
    refine lv_i2l K.1 K.2.1 dX8_cursor_261 rfl ?_
    refine lv_lload_n K.1 K.2.1 dX8_cursor_262 rfl (lv_at hl 0 rfl) ?_
    refine lv_lload K.1 K.2.1 dX8_cursor_263 (lv_at hl 1 rfl) ?_
    refine lv_lmul K.1 K.2.1 dX8_cursor_265 ?_
    refine lv_ldc2 K.1 K.2.1 K.2.2.2.1 (K.2.2.1 _ kc_X8_221) dX8_cursor_266 ?_
    refine lv_ldiv K.1 K.2.1 dX8_cursor_269 (by decide) ?_
    refine lv_ladd K.1 K.2.1 dX8_cursor_270 ?_
    refine caV K hw (c_X8_setY l D a cA _ _) hl.1 (tt_V km_X8_85 kI_X8_setY ks_X8_setY ki_X8 kC_X8_setY) 0 (ci := 8) rfl rfl rfl (na := 1) rfl (by decide +kernel) ⟨rfl, rfl⟩ (by decide) ⟨Nat.zero_le _, Nat.zero_le _⟩ rfl (Nat.le_of_ble_eq_true rfl) dX8_cursor_271 (fun H locs hw => ?_)
    obtain ⟨s271, es271, hw⟩ := nmM hw
    refine lv_iconst (v := 1) K.1 K.2.1 dX8_cursor_274 (by decide) ?_
    have eq9 : f_X8_cursor σ0 x1 x2 x3 = (s271, 1) := (by subst es271; exact (Eq.trans e0 rfl))
    exact ret (congrArg (fun z => mdW a cA z.1) eq9) (congrArg (fun z => z.2) eq9) hw dX8_cursor_275
  have J162 : ∀ (σ : PS) (y1 : Int32) (y2 : Int32) (y3 : Int64) (y5 : Int32) (k0 : Int64) (H : Heap) (locs : List Loc) (ls : Array Slot), WD D A s.heap (mdW a cA σ) H locs → lv_has ls 11 [(0, .ref (a 0)), (1, .int y1), (2, .int y2), (3, .long y3), (5, .int y5)] → f_X8_cursor σ0 x1 x2 x3 = g_X8_cursor_162 σ y1 y2 y3 y5 k0 → W p l e rm_X8_cursor s m args below meth c H locs 0 0 Q (F0 m 162 ls [.long k0]) := by
    intro σ y1 y2 y3 y5 k0 H locs ls hw hl e0
    refine lv_lstore (lv' := [(7, .long k0), (0, .ref (a 0)), (1, .int y1), (2, .int y2), (3, .long y3), (5, .int y5)]) K.1 K.2.1 dX8_cursor_162 hl (by decide) rfl (fun ls hl => ?_)
    refine lv_aload_n K.1 K.2.1 dX8_cursor_164 rfl (lv_at hl 1 rfl) ?_
    refine gM_0_14 K hw kf_X8_128 dX8_cursor_165 ?_
    refine lv_if_eq (tgt := 221) K.1 K.2.1 dX8_cursor_168 (by decide) (fun c168 => ?_) (fun c168 => ?_)
    · refine lv_iload K.1 K.2.1 dX8_cursor_221 (lv_at hl 5 rfl) ?_
      refine lv_if_eq (tgt := 241) K.1 K.2.1 dX8_cursor_223 (by decide) (fun c223 => ?_) (fun c223 => ?_)
      · refine lv_aload_n K.1 K.2.1 dX8_cursor_241 rfl (lv_at hl 1 rfl) ?_
        refine lv_iload_n K.1 K.2.1 dX8_cursor_242 rfl (lv_at hl 2 rfl) ?_
        refine lv_bipush (v := 82) K.1 K.2.1 dX8_cursor_243 (by decide) ?_
        refine lv_icmp_ne (tgt := 255) K.1 K.2.1 dX8_cursor_245 (by decide) (fun c245 => ?_) (fun c245 => ?_)
        · refine lv_aload_n K.1 K.2.1 dX8_cursor_255 rfl (lv_at hl 1 rfl) ?_
          refine gM_0_1 K hw kf_X8_7 dX8_cursor_256 ?_
          refine lv_iconst (v := 4) K.1 K.2.1 dX8_cursor_259 (by decide) ?_
          refine lM_1 K hw (vi_4 (by decide)) cl_4 dX8_cursor_260 ?_
          exact J261 _ _ _ _ _ _ _ hw (lv_sub hl [4, 0] rfl) (by exact (Eq.trans e0 (Eq.trans (if_pos c168) (Eq.trans (if_pos c223) (Eq.trans (if_neg c245) rfl)))))
        · refine lv_aload_n K.1 K.2.1 dX8_cursor_248 rfl (lv_at hl 1 rfl) ?_
          refine caI K hw (c_X8_home l D a cA _) hl.1 (tt_V km_X8_81 kI_X8_home ks_X8_home ki_X8 kC_X8_home) 0 (ci := 8) rfl rfl rfl (na := 0) rfl (by decide +kernel) ⟨rfl, rfl⟩ (by decide) ⟨Nat.zero_le _, Nat.zero_le _⟩ rfl (Nat.le_of_ble_eq_true rfl) dX8_cursor_249 (fun H locs hw => ?_)
          refine lv_goto (tgt := 261) K.1 K.2.1 dX8_cursor_252 (by decide) ?_
          exact J261 _ _ _ _ _ _ _ hw (lv_sub hl [4, 0] rfl) (by exact (Eq.trans e0 (Eq.trans (if_pos c168) (Eq.trans (if_pos c223) (Eq.trans (if_pos c245) rfl)))))
      · refine lv_aload_n K.1 K.2.1 dX8_cursor_226 rfl (lv_at hl 1 rfl) ?_
        refine lv_lload_n K.1 K.2.1 dX8_cursor_227 rfl (lv_at hl 4 rfl) ?_
        refine lv_lload K.1 K.2.1 dX8_cursor_228 (lv_at hl 0 rfl) ?_
        refine lv_lmul K.1 K.2.1 dX8_cursor_230 ?_
        refine lv_ldc2 K.1 K.2.1 K.2.2.2.1 (K.2.2.1 _ kc_X8_221) dX8_cursor_231 ?_
        refine lv_ldiv K.1 K.2.1 dX8_cursor_234 (by decide) ?_
        refine caV K hw (c_X8_setX l D a cA _ _) hl.1 (tt_V km_X8_77 kI_X8_setX ks_X8_setX ki_X8 kC_X8_setX) 0 (ci := 8) rfl rfl rfl (na := 1) rfl (by decide +kernel) ⟨rfl, rfl⟩ (by decide) ⟨Nat.zero_le _, Nat.zero_le _⟩ rfl (Nat.le_of_ble_eq_true rfl) dX8_cursor_235 (fun H locs hw => ?_)
        obtain ⟨s235, es235, hw⟩ := nmM hw
        refine lv_goto (tgt := 274) K.1 K.2.1 dX8_cursor_238 (by decide) ?_
        refine lv_iconst (v := 1) K.1 K.2.1 dX8_cursor_274 (by decide) ?_
        have eq9 : f_X8_cursor σ0 x1 x2 x3 = (s235, 1) := (by subst es235; exact (Eq.trans e0 (Eq.trans (if_pos c168) (Eq.trans (if_neg c223) rfl))))
        exact ret (congrArg (fun z => mdW a cA z.1) eq9) (congrArg (fun z => z.2) eq9) hw dX8_cursor_275
    · refine lv_iload_n K.1 K.2.1 dX8_cursor_171 rfl (lv_at hl 3 rfl) ?_
      refine lv_i2l K.1 K.2.1 dX8_cursor_172 rfl ?_
      refine lv_lload K.1 K.2.1 dX8_cursor_173 (lv_at hl 0 rfl) ?_
      refine lv_lmul K.1 K.2.1 dX8_cursor_175 ?_
      refine lv_ldc2 K.1 K.2.1 K.2.2.2.1 (K.2.2.1 _ kc_X8_221) dX8_cursor_176 ?_
      refine lv_ldiv K.1 K.2.1 dX8_cursor_179 (by decide) ?_
      refine lv_topl (fun x9_180 ex9_180 => ?_)
      refine lv_lstore (lv' := [(9, .long x9_180), (7, .long k0), (0, .ref (a 0)), (1, .int y1), (2, .int y2), (3, .long y3), (5, .int y5)]) K.1 K.2.1 dX8_cursor_180 hl (by decide) rfl (fun ls hl => ?_)
      refine lv_iload K.1 K.2.1 dX8_cursor_182 (lv_at hl 6 rfl) ?_
      refine lv_if_eq (tgt := 204) K.1 K.2.1 dX8_cursor_184 (by decide) (fun c184 => ?_) (fun c184 => ?_)
      · refine lv_aload_n K.1 K.2.1 dX8_cursor_204 rfl (lv_at hl 2 rfl) ?_
        refine lv_aload_n K.1 K.2.1 dX8_cursor_205 rfl (lv_at hl 2 rfl) ?_
        refine gM_0_1 K hw kf_X8_7 dX8_cursor_206 ?_
        refine lv_iconst (v := 1) K.1 K.2.1 dX8_cursor_209 (by decide) ?_
        refine lM_1 K hw (vi_1 (by decide)) cl_1 dX8_cursor_210 ?_
        refine lv_i2l K.1 K.2.1 dX8_cursor_211 rfl ?_
        refine lv_lload K.1 K.2.1 dX8_cursor_212 (lv_at hl 0 rfl) ?_
        refine lv_ladd K.1 K.2.1 dX8_cursor_214 ?_
        refine caV K hw (c_X8_setY l D a cA _ _) hl.1 (tt_V km_X8_85 kI_X8_setY ks_X8_setY ki_X8 kC_X8_setY) 0 (ci := 8) rfl rfl rfl (na := 1) rfl (by decide +kernel) ⟨rfl, rfl⟩ (by decide) ⟨Nat.zero_le _, Nat.zero_le _⟩ rfl (Nat.le_of_ble_eq_true rfl) dX8_cursor_215 (fun H locs hw => ?_)
        obtain ⟨s215, es215, hw⟩ := nmM hw
        refine lv_goto (tgt := 274) K.1 K.2.1 dX8_cursor_218 (by decide) ?_
        refine lv_iconst (v := 1) K.1 K.2.1 dX8_cursor_274 (by decide) ?_
        have eq9 : f_X8_cursor σ0 x1 x2 x3 = (s215, 1) := (by subst es215 ex9_180; exact (Eq.trans e0 (Eq.trans (if_neg c168) (Eq.trans (if_pos c184) rfl))))
        exact ret (congrArg (fun z => mdW a cA z.1) eq9) (congrArg (fun z => z.2) eq9) hw dX8_cursor_275
      · refine lv_aload_n K.1 K.2.1 dX8_cursor_187 rfl (lv_at hl 2 rfl) ?_
        refine lv_aload_n K.1 K.2.1 dX8_cursor_188 rfl (lv_at hl 2 rfl) ?_
        refine gM_0_1 K hw kf_X8_7 dX8_cursor_189 ?_
        refine lv_iconst (v := 0) K.1 K.2.1 dX8_cursor_192 (by decide) ?_
        refine lM_1 K hw (vi_0 (by decide)) cl_0 dX8_cursor_193 ?_
        refine lv_i2l K.1 K.2.1 dX8_cursor_194 rfl ?_
        refine lv_lload K.1 K.2.1 dX8_cursor_195 (lv_at hl 0 rfl) ?_
        refine lv_ladd K.1 K.2.1 dX8_cursor_197 ?_
        refine caV K hw (c_X8_setX l D a cA _ _) hl.1 (tt_V km_X8_77 kI_X8_setX ks_X8_setX ki_X8 kC_X8_setX) 0 (ci := 8) rfl rfl rfl (na := 1) rfl (by decide +kernel) ⟨rfl, rfl⟩ (by decide) ⟨Nat.zero_le _, Nat.zero_le _⟩ rfl (Nat.le_of_ble_eq_true rfl) dX8_cursor_198 (fun H locs hw => ?_)
        obtain ⟨s198, es198, hw⟩ := nmM hw
        refine lv_goto (tgt := 218) K.1 K.2.1 dX8_cursor_201 (by decide) ?_
        refine lv_goto (tgt := 274) K.1 K.2.1 dX8_cursor_218 (by decide) ?_
        refine lv_iconst (v := 1) K.1 K.2.1 dX8_cursor_274 (by decide) ?_
        have eq9 : f_X8_cursor σ0 x1 x2 x3 = (s198, 1) := (by subst es198 ex9_180; exact (Eq.trans e0 (Eq.trans (if_neg c168) (Eq.trans (if_neg c184) rfl))))
        exact ret (congrArg (fun z => mdW a cA z.1) eq9) (congrArg (fun z => z.2) eq9) hw dX8_cursor_275
  have J110 : ∀ (σ : PS) (y1 : Int32) (y2 : Int32) (y3 : Int64) (y5 : Int32) (H : Heap) (locs : List Loc) (ls : Array Slot), WD D A s.heap (mdW a cA σ) H locs → lv_has ls 11 [(0, .ref (a 0)), (1, .int y1), (2, .int y2), (3, .long y3), (5, .int y5)] → f_X8_cursor σ0 x1 x2 x3 = g_X8_cursor_110 σ y1 y2 y3 y5 → W p l e rm_X8_cursor s m args below meth c H locs 0 0 Q (F0 m 110 ls []) := by
    intro σ y1 y2 y3 y5 H locs ls hw hl e0
    refine lv_iload_n K.1 K.2.1 dX8_cursor_110 rfl (lv_at hl 1 rfl) ?_
    refine lv_bipush (v := 67) K.1 K.2.1 dX8_cursor_111 (by decide) ?_
    refine lv_icmp_ne (tgt := 127) K.1 K.2.1 dX8_cursor_113 (by decide) (fun c113 => ?_) (fun c113 => ?_)
    · refine lv_iload_n K.1 K.2.1 dX8_cursor_127 rfl (lv_at hl 1 rfl) ?_
      refine lv_bipush (v := 82) K.1 K.2.1 dX8_cursor_128 (by decide) ?_
      refine lv_icmp_ne (tgt := 144) K.1 K.2.1 dX8_cursor_130 (by decide) (fun c130 => ?_) (fun c130 => ?_)
      · refine lv_aload_n K.1 K.2.1 dX8_cursor_144 rfl (lv_at hl 0 rfl) ?_
        refine gM_0_11 K hw kf_X8_149 dX8_cursor_145 ?_
        refine lv_bipush (v := 42) K.1 K.2.1 dX8_cursor_148 (by decide) ?_
        refine lv_icmp_ne (tgt := 159) K.1 K.2.1 dX8_cursor_150 (by decide) (fun c150 => ?_) (fun c150 => ?_)
        · refine lv_ldc2 K.1 K.2.1 K.2.2.2.1 (K.2.2.1 _ kc_X8_232) dX8_cursor_159 ?_
          exact J162 _ _ _ _ _ _ _ _ _ hw (lv_sub hl [0, 1, 2, 3, 4] rfl) (by exact (Eq.trans e0 (Eq.trans (if_neg c113) (Eq.trans (if_neg c130) (Eq.trans (if_neg c150) rfl)))))
        · refine lv_ldc2 K.1 K.2.1 K.2.2.2.1 (K.2.2.1 _ kc_X8_230) dX8_cursor_153 ?_
          refine lv_goto (tgt := 162) K.1 K.2.1 dX8_cursor_156 (by decide) ?_
          exact J162 _ _ _ _ _ _ _ _ _ hw (lv_sub hl [0, 1, 2, 3, 4] rfl) (by exact (Eq.trans e0 (Eq.trans (if_neg c113) (Eq.trans (if_neg c130) (Eq.trans (if_pos c150) rfl)))))
      · refine lv_aload_n K.1 K.2.1 dX8_cursor_133 rfl (lv_at hl 0 rfl) ?_
        refine gM_0_1 K hw kf_X8_7 dX8_cursor_134 ?_
        refine lv_bipush (v := 7) K.1 K.2.1 dX8_cursor_137 (by decide) ?_
        refine lM_1 K hw (vi_7 (by decide)) cl_7 dX8_cursor_139 ?_
        refine lv_i2l K.1 K.2.1 dX8_cursor_140 rfl ?_
        refine lv_goto (tgt := 162) K.1 K.2.1 dX8_cursor_141 (by decide) ?_
        exact J162 _ _ _ _ _ _ _ _ _ hw (lv_sub hl [0, 1, 2, 3, 4] rfl) (by exact (Eq.trans e0 (Eq.trans (if_neg c113) (Eq.trans (if_pos c130) rfl))))
    · refine lv_aload_n K.1 K.2.1 dX8_cursor_116 rfl (lv_at hl 0 rfl) ?_
      refine gM_0_1 K hw kf_X8_7 dX8_cursor_117 ?_
      refine lv_bipush (v := 6) K.1 K.2.1 dX8_cursor_120 (by decide) ?_
      refine lM_1 K hw (vi_6 (by decide)) cl_6 dX8_cursor_122 ?_
      refine lv_i2l K.1 K.2.1 dX8_cursor_123 rfl ?_
      refine lv_goto (tgt := 162) K.1 K.2.1 dX8_cursor_124 (by decide) ?_
      exact J162 _ _ _ _ _ _ _ _ _ hw (lv_sub hl [0, 1, 2, 3, 4] rfl) (by exact (Eq.trans e0 (Eq.trans (if_pos c113) rfl)))
  have J96 : ∀ (σ : PS) (y1 : Int32) (y2 : Int32) (y3 : Int64) (y5 : Int32) (k0 : Int32) (H : Heap) (locs : List Loc) (ls : Array Slot), WD D A s.heap (mdW a cA σ) H locs → lv_has ls 11 [(0, .ref (a 0)), (1, .int y1), (2, .int y2), (3, .long y3), (5, .int y5)] → f_X8_cursor σ0 x1 x2 x3 = g_X8_cursor_96 σ y1 y2 y3 y5 k0 → W p l e rm_X8_cursor s m args below meth c H locs 0 0 Q (F0 m 96 ls [.int k0]) := by
    intro σ y1 y2 y3 y5 k0 H locs ls hw hl e0
    refine lv_istore (lv' := [(6, .int k0), (0, .ref (a 0)), (1, .int y1), (2, .int y2), (3, .long y3), (5, .int y5)]) K.1 K.2.1 dX8_cursor_96 hl (by decide) rfl (fun ls hl => ?_)
    refine lv_iload K.1 K.2.1 dX8_cursor_98 (lv_at hl 5 rfl) ?_
    refine lv_if_ne (tgt := 110) K.1 K.2.1 dX8_cursor_100 (by decide) (fun c100 => ?_) (fun c100 => ?_)
    · exact J110 _ _ _ _ _ _ _ _ hw (lv_sub hl [1, 2, 3, 4, 5] rfl) (by exact (Eq.trans e0 (Eq.trans (if_neg c100) rfl)))
    · refine lv_iload K.1 K.2.1 dX8_cursor_103 (lv_at hl 0 rfl) ?_
      refine lv_if_ne (tgt := 110) K.1 K.2.1 dX8_cursor_105 (by decide) (fun c105 => ?_) (fun c105 => ?_)
      · exact J110 _ _ _ _ _ _ _ _ hw (lv_sub hl [1, 2, 3, 4, 5] rfl) (by exact (Eq.trans e0 (Eq.trans (if_pos c100) (Eq.trans (if_neg c105) rfl))))
      · refine lv_iconst (v := 0) K.1 K.2.1 dX8_cursor_108 (by decide) ?_
        have eq9 : f_X8_cursor σ0 x1 x2 x3 = (σ, 0) := (by exact (Eq.trans e0 (Eq.trans (if_pos c100) (Eq.trans (if_pos c105) rfl))))
        exact ret (congrArg (fun z => mdW a cA z.1) eq9) (congrArg (fun z => z.2) eq9) hw dX8_cursor_109
  have J91 : ∀ (σ : PS) (y1 : Int32) (y2 : Int32) (y3 : Int64) (y5 : Int32) (H : Heap) (locs : List Loc) (ls : Array Slot), WD D A s.heap (mdW a cA σ) H locs → lv_has ls 11 [(0, .ref (a 0)), (1, .int y1), (2, .int y2), (3, .long y3), (5, .int y5)] → f_X8_cursor σ0 x1 x2 x3 = g_X8_cursor_91 σ y1 y2 y3 y5 → W p l e rm_X8_cursor s m args below meth c H locs 0 0 Q (F0 m 91 ls []) := by
    intro σ y1 y2 y3 y5 H locs ls hw hl e0
    refine lv_iconst (v := 1) K.1 K.2.1 dX8_cursor_91 (by decide) ?_
    refine lv_goto (tgt := 96) K.1 K.2.1 dX8_cursor_92 (by decide) ?_
    exact J96 _ _ _ _ _ _ _ _ _ hw (lv_sub hl [0, 1, 2, 3, 4] rfl) (by exact (Eq.trans e0 rfl))
  have J47 : ∀ (σ : PS) (y1 : Int32) (y2 : Int32) (y3 : Int64) (k0 : Int32) (H : Heap) (locs : List Loc) (ls : Array Slot), WD D A s.heap (mdW a cA σ) H locs → lv_has ls 11 [(0, .ref (a 0)), (1, .int y1), (2, .int y2), (3, .long y3)] → f_X8_cursor σ0 x1 x2 x3 = g_X8_cursor_47 σ y1 y2 y3 k0 → W p l e rm_X8_cursor s m args below meth c H locs 0 0 Q (F0 m 47 ls [.int k0]) := by
    intro σ y1 y2 y3 k0 H locs ls hw hl e0
    refine lv_istore (lv' := [(5, .int k0), (0, .ref (a 0)), (1, .int y1), (2, .int y2), (3, .long y3)]) K.1 K.2.1 dX8_cursor_47 hl (by decide) rfl (fun ls hl => ?_)
    refine lv_aload_n K.1 K.2.1 dX8_cursor_49 rfl (lv_at hl 1 rfl) ?_
    refine lv_bipush (v := 38) K.1 K.2.1 dX8_cursor_50 (by decide) ?_
    refine lv_bipush (v := 97) K.1 K.2.1 dX8_cursor_52 (by decide) ?_
    refine lv_bipush (v := 82) K.1 K.2.1 dX8_cursor_54 (by decide) ?_
    refine lv_iload_n K.1 K.2.1 dX8_cursor_56 rfl (lv_at hl 2 rfl) ?_
    refine caI K hw (c_X8_is l D a cA _ _ _ _ _) hl.1 (tt_V km_X8_215 kI_X8_is ks_X8_is ki_X8 kC_X8_is) 0 (ci := 8) rfl rfl rfl (na := 4) rfl (by decide +kernel) ⟨rfl, rfl⟩ (by decide) ⟨Nat.zero_le _, Nat.zero_le _⟩ rfl (Nat.le_of_ble_eq_true rfl) dX8_cursor_57 (fun H locs hw => ?_)
    refine lv_if_ne (tgt := 91) K.1 K.2.1 dX8_cursor_60 (by decide) (fun c60 => ?_) (fun c60 => ?_)
    · exact J91 _ _ _ _ _ _ _ _ hw (lv_sub hl [1, 2, 3, 4, 0] rfl) (by exact (Eq.trans e0 (Eq.trans (if_neg c60) rfl)))
    · refine lv_aload_n K.1 K.2.1 dX8_cursor_63 rfl (lv_at hl 1 rfl) ?_
      refine lv_bipush (v := 38) K.1 K.2.1 dX8_cursor_64 (by decide) ?_
      refine lv_bipush (v := 97) K.1 K.2.1 dX8_cursor_66 (by decide) ?_
      refine lv_bipush (v := 86) K.1 K.2.1 dX8_cursor_68 (by decide) ?_
      refine lv_iload_n K.1 K.2.1 dX8_cursor_70 rfl (lv_at hl 2 rfl) ?_
      refine caI K hw (c_X8_is l D a cA _ _ _ _ _) hl.1 (tt_V km_X8_215 kI_X8_is ks_X8_is ki_X8 kC_X8_is) 0 (ci := 8) rfl rfl rfl (na := 4) rfl (by decide +kernel) ⟨rfl, rfl⟩ (by decide) ⟨Nat.zero_le _, Nat.zero_le _⟩ rfl (Nat.le_of_ble_eq_true rfl) dX8_cursor_71 (fun H locs hw => ?_)
      refine lv_if_ne (tgt := 91) K.1 K.2.1 dX8_cursor_74 (by decide) (fun c74 => ?_) (fun c74 => ?_)
      · exact J91 _ _ _ _ _ _ _ _ hw (lv_sub hl [1, 2, 3, 4, 0] rfl) (by exact (Eq.trans e0 (Eq.trans (if_pos c60) (Eq.trans (if_neg c74) rfl))))
      · refine lv_aload_n K.1 K.2.1 dX8_cursor_77 rfl (lv_at hl 1 rfl) ?_
        refine lv_bipush (v := 42) K.1 K.2.1 dX8_cursor_78 (by decide) ?_
        refine lv_bipush (v := 112) K.1 K.2.1 dX8_cursor_80 (by decide) ?_
        refine lv_bipush (v := 89) K.1 K.2.1 dX8_cursor_82 (by decide) ?_
        refine lv_iload_n K.1 K.2.1 dX8_cursor_84 rfl (lv_at hl 2 rfl) ?_
        refine caI K hw (c_X8_is l D a cA _ _ _ _ _) hl.1 (tt_V km_X8_215 kI_X8_is ks_X8_is ki_X8 kC_X8_is) 0 (ci := 8) rfl rfl rfl (na := 4) rfl (by decide +kernel) ⟨rfl, rfl⟩ (by decide) ⟨Nat.zero_le _, Nat.zero_le _⟩ rfl (Nat.le_of_ble_eq_true rfl) dX8_cursor_85 (fun H locs hw => ?_)
        refine lv_if_eq (tgt := 95) K.1 K.2.1 dX8_cursor_88 (by decide) (fun c88 => ?_) (fun c88 => ?_)
        · refine lv_iconst (v := 0) K.1 K.2.1 dX8_cursor_95 (by decide) ?_
          exact J96 _ _ _ _ _ _ _ _ _ hw (lv_sub hl [1, 2, 3, 4, 0] rfl) (by exact (Eq.trans e0 (Eq.trans (if_pos c60) (Eq.trans (if_pos c74) (Eq.trans (if_pos c88) rfl)))))
        · exact J91 _ _ _ _ _ _ _ _ hw (lv_sub hl [1, 2, 3, 4, 0] rfl) (by exact (Eq.trans e0 (Eq.trans (if_pos c60) (Eq.trans (if_pos c74) (Eq.trans (if_neg c88) rfl)))))
  have J42 : ∀ (σ : PS) (y1 : Int32) (y2 : Int32) (y3 : Int64) (H : Heap) (locs : List Loc) (ls : Array Slot), WD D A s.heap (mdW a cA σ) H locs → lv_has ls 11 [(0, .ref (a 0)), (1, .int y1), (2, .int y2), (3, .long y3)] → f_X8_cursor σ0 x1 x2 x3 = g_X8_cursor_42 σ y1 y2 y3 → W p l e rm_X8_cursor s m args below meth c H locs 0 0 Q (F0 m 42 ls []) := by
    intro σ y1 y2 y3 H locs ls hw hl e0
    refine lv_iconst (v := 1) K.1 K.2.1 dX8_cursor_42 (by decide) ?_
    refine lv_goto (tgt := 47) K.1 K.2.1 dX8_cursor_43 (by decide) ?_
    exact J47 _ _ _ _ _ _ _ _ hw (lv_sub hl [0, 1, 2, 3] rfl) (by exact (Eq.trans e0 rfl))
  refine lv_aload_n K.1 K.2.1 dX8_cursor_0 rfl (lv_at hl 0 rfl) ?_
  refine lv_bipush (v := 38) K.1 K.2.1 dX8_cursor_1 (by decide) ?_
  refine lv_bipush (v := 97) K.1 K.2.1 dX8_cursor_3 (by decide) ?_
  refine lv_bipush (v := 67) K.1 K.2.1 dX8_cursor_5 (by decide) ?_
  refine lv_iload_n K.1 K.2.1 dX8_cursor_7 rfl (lv_at hl 1 rfl) ?_
  refine caI K hw (c_X8_is l D a cA _ _ _ _ _) hl.1 (tt_V km_X8_215 kI_X8_is ks_X8_is ki_X8 kC_X8_is) 0 (ci := 8) rfl rfl rfl (na := 4) rfl (by decide +kernel) ⟨rfl, rfl⟩ (by decide) ⟨Nat.zero_le _, Nat.zero_le _⟩ rfl (Nat.le_of_ble_eq_true rfl) dX8_cursor_8 (fun H locs hw => ?_)
  refine lv_if_ne (tgt := 42) K.1 K.2.1 dX8_cursor_11 (by decide) (fun c11 => ?_) (fun c11 => ?_)
  · exact J42 _ _ _ _ _ _ _ hw (lv_sub hl [0, 1, 2, 3] rfl) (by exact (Eq.trans (if_neg c11) rfl))
  · refine lv_aload_n K.1 K.2.1 dX8_cursor_14 rfl (lv_at hl 0 rfl) ?_
    refine lv_bipush (v := 38) K.1 K.2.1 dX8_cursor_15 (by decide) ?_
    refine lv_bipush (v := 97) K.1 K.2.1 dX8_cursor_17 (by decide) ?_
    refine lv_bipush (v := 72) K.1 K.2.1 dX8_cursor_19 (by decide) ?_
    refine lv_iload_n K.1 K.2.1 dX8_cursor_21 rfl (lv_at hl 1 rfl) ?_
    refine caI K hw (c_X8_is l D a cA _ _ _ _ _) hl.1 (tt_V km_X8_215 kI_X8_is ks_X8_is ki_X8 kC_X8_is) 0 (ci := 8) rfl rfl rfl (na := 4) rfl (by decide +kernel) ⟨rfl, rfl⟩ (by decide) ⟨Nat.zero_le _, Nat.zero_le _⟩ rfl (Nat.le_of_ble_eq_true rfl) dX8_cursor_22 (fun H locs hw => ?_)
    refine lv_if_ne (tgt := 42) K.1 K.2.1 dX8_cursor_25 (by decide) (fun c25 => ?_) (fun c25 => ?_)
    · exact J42 _ _ _ _ _ _ _ hw (lv_sub hl [0, 1, 2, 3] rfl) (by exact (Eq.trans (if_pos c11) (Eq.trans (if_neg c25) rfl)))
    · refine lv_aload_n K.1 K.2.1 dX8_cursor_28 rfl (lv_at hl 0 rfl) ?_
      refine lv_bipush (v := 42) K.1 K.2.1 dX8_cursor_29 (by decide) ?_
      refine lv_bipush (v := 112) K.1 K.2.1 dX8_cursor_31 (by decide) ?_
      refine lv_bipush (v := 88) K.1 K.2.1 dX8_cursor_33 (by decide) ?_
      refine lv_iload_n K.1 K.2.1 dX8_cursor_35 rfl (lv_at hl 1 rfl) ?_
      refine caI K hw (c_X8_is l D a cA _ _ _ _ _) hl.1 (tt_V km_X8_215 kI_X8_is ks_X8_is ki_X8 kC_X8_is) 0 (ci := 8) rfl rfl rfl (na := 4) rfl (by decide +kernel) ⟨rfl, rfl⟩ (by decide) ⟨Nat.zero_le _, Nat.zero_le _⟩ rfl (Nat.le_of_ble_eq_true rfl) dX8_cursor_36 (fun H locs hw => ?_)
      refine lv_if_eq (tgt := 46) K.1 K.2.1 dX8_cursor_39 (by decide) (fun c39 => ?_) (fun c39 => ?_)
      · refine lv_iconst (v := 0) K.1 K.2.1 dX8_cursor_46 (by decide) ?_
        exact J47 _ _ _ _ _ _ _ _ hw (lv_sub hl [0, 1, 2, 3] rfl) (by exact (Eq.trans (if_pos c11) (Eq.trans (if_pos c25) (Eq.trans (if_pos c39) rfl))))
      · exact J42 _ _ _ _ _ _ _ hw (lv_sub hl [0, 1, 2, 3] rfl) (by exact (Eq.trans (if_pos c11) (Eq.trans (if_pos c25) (Eq.trans (if_neg c39) rfl))))
def f_X8_divides (x0 : Int32) : Int32 := (if x0 = 1 then 1 else (if x0 = 2 then 1 else (if x0 = 3 then 1 else (if x0 = 4 then 1 else (if x0 = 6 then 1 else (if x0 = 8 then 1 else (if x0 = 12 then 1 else (if x0 = 16 then 1 else (if x0 = 24 then 1 else (if x0 = 48 then 1 else 0))))))))))
abbrev rm_X8_divides : Room := { frames := 0, cells := 0, slots := 0, locals := 0 }
theorem nz_X8_divides {x0 : Int32} : NZ (f_X8_divides x0) := (nzI nz1 (nzI nz1 (nzI nz1 (nzI nz1 (nzI nz1 (nzI nz1 (nzI nz1 (nzI nz1 (nzI nz1 (nzI nz1 nz0))))))))))
set_option maxHeartbeats 4000000 in
set_option maxRecDepth 100000 in
theorem c_X8_divides (l : Launch) (D : va_G) (a : Nat → Nat) (cA : Nat → ClassId) (σ0 : PS) (x0 : Int32) : CI l yX8_divides cX8_divides 1 .boolean rm_X8_divides D (mdT cA) [.int x0] (mdW a cA σ0) (mdW a cA σ0) (f_X8_divides x0) := by
  refine en_i (by decide +kernel) (Nat.le_of_ble_eq_true rfl) nz_X8_divides ?_
  intro p e s m args below meth c A ls Q K hw hl ret
  have hl : lv_has ls 1 [(0, .int x0)] := hl
  refine lv_iload_n K.1 K.2.1 dX8_divides_0 rfl (lv_at hl 0 rfl) ?_
  refine lv_iconst (v := 1) K.1 K.2.1 dX8_divides_1 (by decide) ?_
  refine lv_icmp_eq (tgt := 56) K.1 K.2.1 dX8_divides_2 (by decide) (fun c2 => ?_) (fun c2 => ?_)
  · refine lv_iconst (v := 1) K.1 K.2.1 dX8_divides_56 (by decide) ?_
    refine lv_goto (tgt := 61) K.1 K.2.1 dX8_divides_57 (by decide) ?_
    exact ret rfl (by exact (Eq.trans (if_pos c2) rfl)) hw dX8_divides_61
  · refine lv_iload_n K.1 K.2.1 dX8_divides_5 rfl (lv_at hl 0 rfl) ?_
    refine lv_iconst (v := 2) K.1 K.2.1 dX8_divides_6 (by decide) ?_
    refine lv_icmp_eq (tgt := 56) K.1 K.2.1 dX8_divides_7 (by decide) (fun c7 => ?_) (fun c7 => ?_)
    · refine lv_iconst (v := 1) K.1 K.2.1 dX8_divides_56 (by decide) ?_
      refine lv_goto (tgt := 61) K.1 K.2.1 dX8_divides_57 (by decide) ?_
      exact ret rfl (by exact (Eq.trans (if_neg c2) (Eq.trans (if_pos c7) rfl))) hw dX8_divides_61
    · refine lv_iload_n K.1 K.2.1 dX8_divides_10 rfl (lv_at hl 0 rfl) ?_
      refine lv_iconst (v := 3) K.1 K.2.1 dX8_divides_11 (by decide) ?_
      refine lv_icmp_eq (tgt := 56) K.1 K.2.1 dX8_divides_12 (by decide) (fun c12 => ?_) (fun c12 => ?_)
      · refine lv_iconst (v := 1) K.1 K.2.1 dX8_divides_56 (by decide) ?_
        refine lv_goto (tgt := 61) K.1 K.2.1 dX8_divides_57 (by decide) ?_
        exact ret rfl (by exact (Eq.trans (if_neg c2) (Eq.trans (if_neg c7) (Eq.trans (if_pos c12) rfl)))) hw dX8_divides_61
      · refine lv_iload_n K.1 K.2.1 dX8_divides_15 rfl (lv_at hl 0 rfl) ?_
        refine lv_iconst (v := 4) K.1 K.2.1 dX8_divides_16 (by decide) ?_
        refine lv_icmp_eq (tgt := 56) K.1 K.2.1 dX8_divides_17 (by decide) (fun c17 => ?_) (fun c17 => ?_)
        · refine lv_iconst (v := 1) K.1 K.2.1 dX8_divides_56 (by decide) ?_
          refine lv_goto (tgt := 61) K.1 K.2.1 dX8_divides_57 (by decide) ?_
          exact ret rfl (by exact (Eq.trans (if_neg c2) (Eq.trans (if_neg c7) (Eq.trans (if_neg c12) (Eq.trans (if_pos c17) rfl))))) hw dX8_divides_61
        · refine lv_iload_n K.1 K.2.1 dX8_divides_20 rfl (lv_at hl 0 rfl) ?_
          refine lv_bipush (v := 6) K.1 K.2.1 dX8_divides_21 (by decide) ?_
          refine lv_icmp_eq (tgt := 56) K.1 K.2.1 dX8_divides_23 (by decide) (fun c23 => ?_) (fun c23 => ?_)
          · refine lv_iconst (v := 1) K.1 K.2.1 dX8_divides_56 (by decide) ?_
            refine lv_goto (tgt := 61) K.1 K.2.1 dX8_divides_57 (by decide) ?_
            exact ret rfl (by exact (Eq.trans (if_neg c2) (Eq.trans (if_neg c7) (Eq.trans (if_neg c12) (Eq.trans (if_neg c17) (Eq.trans (if_pos c23) rfl)))))) hw dX8_divides_61
          · refine lv_iload_n K.1 K.2.1 dX8_divides_26 rfl (lv_at hl 0 rfl) ?_
            refine lv_bipush (v := 8) K.1 K.2.1 dX8_divides_27 (by decide) ?_
            refine lv_icmp_eq (tgt := 56) K.1 K.2.1 dX8_divides_29 (by decide) (fun c29 => ?_) (fun c29 => ?_)
            · refine lv_iconst (v := 1) K.1 K.2.1 dX8_divides_56 (by decide) ?_
              refine lv_goto (tgt := 61) K.1 K.2.1 dX8_divides_57 (by decide) ?_
              exact ret rfl (by exact (Eq.trans (if_neg c2) (Eq.trans (if_neg c7) (Eq.trans (if_neg c12) (Eq.trans (if_neg c17) (Eq.trans (if_neg c23) (Eq.trans (if_pos c29) rfl))))))) hw dX8_divides_61
            · refine lv_iload_n K.1 K.2.1 dX8_divides_32 rfl (lv_at hl 0 rfl) ?_
              refine lv_bipush (v := 12) K.1 K.2.1 dX8_divides_33 (by decide) ?_
              refine lv_icmp_eq (tgt := 56) K.1 K.2.1 dX8_divides_35 (by decide) (fun c35 => ?_) (fun c35 => ?_)
              · refine lv_iconst (v := 1) K.1 K.2.1 dX8_divides_56 (by decide) ?_
                refine lv_goto (tgt := 61) K.1 K.2.1 dX8_divides_57 (by decide) ?_
                exact ret rfl (by exact (Eq.trans (if_neg c2) (Eq.trans (if_neg c7) (Eq.trans (if_neg c12) (Eq.trans (if_neg c17) (Eq.trans (if_neg c23) (Eq.trans (if_neg c29) (Eq.trans (if_pos c35) rfl)))))))) hw dX8_divides_61
              · refine lv_iload_n K.1 K.2.1 dX8_divides_38 rfl (lv_at hl 0 rfl) ?_
                refine lv_bipush (v := 16) K.1 K.2.1 dX8_divides_39 (by decide) ?_
                refine lv_icmp_eq (tgt := 56) K.1 K.2.1 dX8_divides_41 (by decide) (fun c41 => ?_) (fun c41 => ?_)
                · refine lv_iconst (v := 1) K.1 K.2.1 dX8_divides_56 (by decide) ?_
                  refine lv_goto (tgt := 61) K.1 K.2.1 dX8_divides_57 (by decide) ?_
                  exact ret rfl (by exact (Eq.trans (if_neg c2) (Eq.trans (if_neg c7) (Eq.trans (if_neg c12) (Eq.trans (if_neg c17) (Eq.trans (if_neg c23) (Eq.trans (if_neg c29) (Eq.trans (if_neg c35) (Eq.trans (if_pos c41) rfl))))))))) hw dX8_divides_61
                · refine lv_iload_n K.1 K.2.1 dX8_divides_44 rfl (lv_at hl 0 rfl) ?_
                  refine lv_bipush (v := 24) K.1 K.2.1 dX8_divides_45 (by decide) ?_
                  refine lv_icmp_eq (tgt := 56) K.1 K.2.1 dX8_divides_47 (by decide) (fun c47 => ?_) (fun c47 => ?_)
                  · refine lv_iconst (v := 1) K.1 K.2.1 dX8_divides_56 (by decide) ?_
                    refine lv_goto (tgt := 61) K.1 K.2.1 dX8_divides_57 (by decide) ?_
                    exact ret rfl (by exact (Eq.trans (if_neg c2) (Eq.trans (if_neg c7) (Eq.trans (if_neg c12) (Eq.trans (if_neg c17) (Eq.trans (if_neg c23) (Eq.trans (if_neg c29) (Eq.trans (if_neg c35) (Eq.trans (if_neg c41) (Eq.trans (if_pos c47) rfl)))))))))) hw dX8_divides_61
                  · refine lv_iload_n K.1 K.2.1 dX8_divides_50 rfl (lv_at hl 0 rfl) ?_
                    refine lv_bipush (v := 48) K.1 K.2.1 dX8_divides_51 (by decide) ?_
                    refine lv_icmp_ne (tgt := 60) K.1 K.2.1 dX8_divides_53 (by decide) (fun c53 => ?_) (fun c53 => ?_)
                    · refine lv_iconst (v := 0) K.1 K.2.1 dX8_divides_60 (by decide) ?_
                      exact ret rfl (by exact (Eq.trans (if_neg c2) (Eq.trans (if_neg c7) (Eq.trans (if_neg c12) (Eq.trans (if_neg c17) (Eq.trans (if_neg c23) (Eq.trans (if_neg c29) (Eq.trans (if_neg c35) (Eq.trans (if_neg c41) (Eq.trans (if_neg c47) (Eq.trans (if_neg c53) rfl))))))))))) hw dX8_divides_61
                    · refine lv_iconst (v := 1) K.1 K.2.1 dX8_divides_56 (by decide) ?_
                      refine lv_goto (tgt := 61) K.1 K.2.1 dX8_divides_57 (by decide) ?_
                      exact ret rfl (by exact (Eq.trans (if_neg c2) (Eq.trans (if_neg c7) (Eq.trans (if_neg c12) (Eq.trans (if_neg c17) (Eq.trans (if_neg c23) (Eq.trans (if_neg c29) (Eq.trans (if_neg c35) (Eq.trans (if_neg c41) (Eq.trans (if_neg c47) (Eq.trans (if_pos c53) rfl))))))))))) hw dX8_divides_61
def f_X8_paging (σ0 : PS) (x1 : Int32) (x2 : Int64) (x4 : Int32) : PS × Int32 := (if x1 = 65 then (if (f_X8_across x4) ≤ 0 then (σ0, 1) else let s121 : PS := f_X8_ejectIfDue σ0; let s131 : PS := f_X8_defaults (upS s121 4 x4); (s131, 1)) else (if x1 = 66 then (σ0, 0) else (if x1 = 67 then (if (Int32.toInt64 (σ0.1 8)) < ((150 * x2) / 10000) then ((upA σ0 0 7 (σ0.2.1 0 7)), 1) else ((upA σ0 0 7 (Int64.toInt32 ((150 * x2) / 10000))), 1)) else (if x1 = 68 then (if (f_X8_divides x4) = 0 then ((upA σ0 0 7 (σ0.2.1 0 7)), 1) else (if x4 = 0 then ((upA σ0 0 7 (7200 / 1)), 1) else ((upA σ0 0 7 (7200 / x4)), 1))) else (if x1 = 69 then (if (Int32.toInt64 (σ0.1 8)) < ((Int32.toInt64 x4) * (Int32.toInt64 (σ0.2.1 0 7))) then (σ0, 1) else (if 0 ≤ (((σ0.1 8) - (x4 * (σ0.2.1 0 7))) - 3600) then ((upA (upA σ0 0 4 (x4 * (σ0.2.1 0 7))) 0 5 (((σ0.1 8) - (x4 * (σ0.2.1 0 7))) - 3600)), 1) else ((upA (upA σ0 0 4 (x4 * (σ0.2.1 0 7))) 0 5 0), 1))) else (if x1 = 70 then (if (Int32.toInt64 (σ0.1 8)) < ((Int32.toInt64 (σ0.2.1 0 4)) + ((Int32.toInt64 x4) * (Int32.toInt64 (σ0.2.1 0 7)))) then (σ0, 1) else ((upA σ0 0 5 (x4 * (σ0.2.1 0 7))), 1)) else (if x1 = 71 then (σ0, 0) else (if x1 = 72 then (σ0, 0) else (if x1 = 73 then (σ0, 0) else (if x1 = 74 then (σ0, 0) else (if x1 = 75 then (σ0, 0) else (if x1 = 76 then (if 2 ≤ x4 then ((upA σ0 0 9 (σ0.2.1 0 9)), 1) else ((upA σ0 0 9 x4), 1)) else (if x1 = 77 then (σ0, 0) else (if x1 = 78 then (σ0, 0) else (if x1 = 79 then (if 4 ≤ x4 then (σ0, 1) else let s143 : PS := f_X8_ejectIfDue σ0; let s153 : PS := f_X8_defaults (upS s143 5 x4); (s153, 1)) else (if x1 = 80 then (σ0, 0) else (if x1 = 81 then (σ0, 0) else (if x1 = 82 then (σ0, 0) else (if x1 = 83 then (σ0, 0) else (if x1 = 84 then (σ0, 0) else (if x1 = 85 then (σ0, 0) else (if x1 = 86 then (σ0, 0) else (if x1 = 87 then (σ0, 0) else (if x1 = 88 then (if 1 ≤ x4 then (if x4 ≤ 99 then ((upS σ0 6 x4), 1) else ((upS σ0 6 99), 1)) else ((upS σ0 6 1), 1)) else (σ0, 0)))))))))))))))))))))))))
theorem bm_X8_paging {σ0 : PS} {x1 : Int32} {x2 : Int64} {x4 : Int32} (hI : Bm σ0) : Bm (f_X8_paging σ0 x1 x2 x4).1 := (bxI2 (fun c1_65 => (bxI2 (fun c117 => hI) (fun c117 => (bm_X8_defaults (bmS_4 (bm_X8_ejectIfDue hI)))))) (fun c1_65 => (bxI2 (fun c1_66 => hI) (fun c1_66 => (bxI2 (fun c1_67 => (bxI2 (fun c208 => (bmT hI (by decide) (by decide))) (fun c208 => (bmT hI (by decide) (by decide))))) (fun c1_67 => (bxI2 (fun c1_68 => (bxI2 (fun c246 => (bmT hI (by decide) (by decide))) (fun c246 => (bxI2 (fun c254 => (bmT hI (by decide) (by decide))) (fun c254 => (bmT hI (by decide) (by decide))))))) (fun c1_68 => (bxI2 (fun c1_69 => (bxI2 (fun c294 => hI) (fun c294 => (bxI2 (fun c334 => (bmT (bmT hI (by decide) (by decide)) (by decide) (by decide))) (fun c334 => (bmT (bmT hI (by decide) (by decide)) (by decide) (by decide))))))) (fun c1_69 => (bxI2 (fun c1_70 => (bxI2 (fun c384 => hI) (fun c384 => (bmT hI (by decide) (by decide))))) (fun c1_70 => (bxI2 (fun c1_71 => hI) (fun c1_71 => (bxI2 (fun c1_72 => hI) (fun c1_72 => (bxI2 (fun c1_73 => hI) (fun c1_73 => (bxI2 (fun c1_74 => hI) (fun c1_74 => (bxI2 (fun c1_75 => hI) (fun c1_75 => (bxI2 (fun c1_76 => (bxI2 (fun c415 => (bmT hI (by decide) (by decide))) (fun c415 => (bmT hI (by decide) (by decide))))) (fun c1_76 => (bxI2 (fun c1_77 => hI) (fun c1_77 => (bxI2 (fun c1_78 => hI) (fun c1_78 => (bxI2 (fun c1_79 => (bxI2 (fun c139 => hI) (fun c139 => (bm_X8_defaults (bmS_5 (bm_X8_ejectIfDue hI)))))) (fun c1_79 => (bxI2 (fun c1_80 => hI) (fun c1_80 => (bxI2 (fun c1_81 => hI) (fun c1_81 => (bxI2 (fun c1_82 => hI) (fun c1_82 => (bxI2 (fun c1_83 => hI) (fun c1_83 => (bxI2 (fun c1_84 => hI) (fun c1_84 => (bxI2 (fun c1_85 => hI) (fun c1_85 => (bxI2 (fun c1_86 => hI) (fun c1_86 => (bxI2 (fun c1_87 => hI) (fun c1_87 => (bxI2 (fun c1_88 => (bxI2 (fun c162 => (bxI2 (fun c173 => (bmS_6 hI)) (fun c173 => (bmS_6 hI)))) (fun c162 => (bmS_6 hI)))) (fun c1_88 => hI))))))))))))))))))))))))))))))))))))))))))))))))
theorem pm_X8_paging {n : Int} {σ0 : PS} {x1 : Int32} {x2 : Int64} {x4 : Int32} (hP : Pm n σ0) (hn : n ≤ 2147483646) : Pm (n + 1) (f_X8_paging σ0 x1 x2 x4).1 := (bxI2 (fun c1_65 => (bxI2 (fun c117 => (pm_w hP)) (fun c117 => (pm_X8_defaults (pm_X8_ejectIfDue hP hn))))) (fun c1_65 => (bxI2 (fun c1_66 => (pm_w hP)) (fun c1_66 => (bxI2 (fun c1_67 => (pm_w (bxI2 (fun c208 => hP) (fun c208 => hP)))) (fun c1_67 => (bxI2 (fun c1_68 => (pm_w (bxI2 (fun c246 => hP) (fun c246 => (bxI2 (fun c254 => hP) (fun c254 => hP)))))) (fun c1_68 => (bxI2 (fun c1_69 => (pm_w (bxI2 (fun c294 => hP) (fun c294 => (bxI2 (fun c334 => hP) (fun c334 => hP)))))) (fun c1_69 => (bxI2 (fun c1_70 => (pm_w (bxI2 (fun c384 => hP) (fun c384 => hP)))) (fun c1_70 => (bxI2 (fun c1_71 => (pm_w hP)) (fun c1_71 => (bxI2 (fun c1_72 => (pm_w hP)) (fun c1_72 => (bxI2 (fun c1_73 => (pm_w hP)) (fun c1_73 => (bxI2 (fun c1_74 => (pm_w hP)) (fun c1_74 => (bxI2 (fun c1_75 => (pm_w hP)) (fun c1_75 => (bxI2 (fun c1_76 => (pm_w (bxI2 (fun c415 => hP) (fun c415 => hP)))) (fun c1_76 => (bxI2 (fun c1_77 => (pm_w hP)) (fun c1_77 => (bxI2 (fun c1_78 => (pm_w hP)) (fun c1_78 => (bxI2 (fun c1_79 => (bxI2 (fun c139 => (pm_w hP)) (fun c139 => (pm_X8_defaults (pm_X8_ejectIfDue hP hn))))) (fun c1_79 => (pm_w (bxI2 (fun c1_80 => hP) (fun c1_80 => (bxI2 (fun c1_81 => hP) (fun c1_81 => (bxI2 (fun c1_82 => hP) (fun c1_82 => (bxI2 (fun c1_83 => hP) (fun c1_83 => (bxI2 (fun c1_84 => hP) (fun c1_84 => (bxI2 (fun c1_85 => hP) (fun c1_85 => (bxI2 (fun c1_86 => hP) (fun c1_86 => (bxI2 (fun c1_87 => hP) (fun c1_87 => (bxI2 (fun c1_88 => (bxI2 (fun c162 => (bxI2 (fun c173 => hP) (fun c173 => hP))) (fun c162 => hP))) (fun c1_88 => hP)))))))))))))))))))))))))))))))))))))))))))))))))
abbrev rm_X8_paging : Room := { frames := 4, cells := 0, slots := 0, locals := 85 }
theorem nz_X8_paging {σ0 : PS} {x1 : Int32} {x2 : Int64} {x4 : Int32} : NZ (f_X8_paging σ0 x1 x2 x4).2 := (nzI2 (nzI2 nz1 nz1) (nzI2 nz0 (nzI2 (nzI2 nz1 nz1) (nzI2 (nzI2 nz1 (nzI2 nz1 nz1)) (nzI2 (nzI2 nz1 (nzI2 nz1 nz1)) (nzI2 (nzI2 nz1 nz1) (nzI2 nz0 (nzI2 nz0 (nzI2 nz0 (nzI2 nz0 (nzI2 nz0 (nzI2 (nzI2 nz1 nz1) (nzI2 nz0 (nzI2 nz0 (nzI2 (nzI2 nz1 nz1) (nzI2 nz0 (nzI2 nz0 (nzI2 nz0 (nzI2 nz0 (nzI2 nz0 (nzI2 nz0 (nzI2 nz0 (nzI2 nz0 (nzI2 (nzI2 (nzI2 nz1 nz1) nz1) nz0))))))))))))))))))))))))
set_option maxHeartbeats 4000000 in
set_option maxRecDepth 100000 in
theorem c_X8_paging (l : Launch) (D : va_G) (a : Nat → Nat) (cA : Nat → ClassId) (σ0 : PS) (x1 : Int32) (x2 : Int64) (x4 : Int32) (hp : 0 ≤ (σ0.1 27).toInt) : CI l yX8_paging cX8_paging 5 .boolean rm_X8_paging D (mdT cA) [.ref (a 0), .int x1, .long x2, .int x4] (mdW a cA σ0) (mdW a cA (f_X8_paging σ0 x1 x2 x4).1) (f_X8_paging σ0 x1 x2 x4).2 := by
  refine en_i (by decide +kernel) (Nat.le_of_ble_eq_true rfl) nz_X8_paging ?_
  intro p e s m args below meth c A ls Q K hw hl ret
  have hl : lv_has ls 5 [(0, .ref (a 0)), (1, .int x1), (2, .long x2), (4, .int x4)] := hl
  refine lv_iload_n K.1 K.2.1 dX8_paging_0 rfl (lv_at hl 1 rfl) ?_
  refine sw_t K dX8_paging_1 (k := 65) (tgt := 112) (by decide) (by decide) (fun c1_65 => ?_) (fun c1_65 => ?_)
  · refine lv_iload K.1 K.2.1 dX8_paging_112 (lv_at hl 3 rfl) ?_
    refine caS K hw (c_X8_across l D a cA _ _) hl.1 km_X8_61 kS_X8_across ki_X8 kC_X8_across (na := 1) rfl (by decide +kernel) ⟨rfl, rfl⟩ (by decide) ⟨Nat.zero_le _, Nat.zero_le _⟩ rfl (Nat.le_of_ble_eq_true rfl) dX8_paging_114 (fun H locs hw => ?_)
    refine lv_if_le (tgt := 134) K.1 K.2.1 dX8_paging_117 (by decide) (fun c117 => ?_) (fun c117 => ?_)
    · refine lv_iconst (v := 1) K.1 K.2.1 dX8_paging_134 (by decide) ?_
      have eq9 : f_X8_paging σ0 x1 x2 x4 = (σ0, 1) := (by exact (Eq.trans (if_pos c1_65) (Eq.trans (if_pos c117) rfl)))
      exact ret (congrArg (fun z => mdW a cA z.1) eq9) (congrArg (fun z => z.2) eq9) hw dX8_paging_135
    · refine lv_aload_n K.1 K.2.1 dX8_paging_120 rfl (lv_at hl 0 rfl) ?_
      refine caV K hw (c_X8_ejectIfDue l D a cA _ hp) hl.1 (tt_V km_X8_122 kI_X8_ejectIfDue ks_X8_ejectIfDue ki_X8 kC_X8_ejectIfDue) 0 (ci := 8) rfl rfl rfl (na := 0) rfl (by decide +kernel) ⟨rfl, rfl⟩ (by decide) ⟨Nat.zero_le _, Nat.zero_le _⟩ rfl (Nat.le_of_ble_eq_true rfl) dX8_paging_121 (fun H locs hw => ?_)
      obtain ⟨s121, es121, hw⟩ := nmM hw
      refine lv_aload_n K.1 K.2.1 dX8_paging_124 rfl (lv_at hl 0 rfl) ?_
      refine lv_iload K.1 K.2.1 dX8_paging_125 (lv_at hl 3 rfl) ?_
      refine pM_0_4 K hw kf_X8_54 dX8_paging_127 (fun H locs hw => ?_)
      refine lv_aload_n K.1 K.2.1 dX8_paging_130 rfl (lv_at hl 0 rfl) ?_
      refine caV K hw (c_X8_defaults l D a cA _) hl.1 (tt_V km_X8_91 kI_X8_defaults ks_X8_defaults ki_X8 kC_X8_defaults) 0 (ci := 8) rfl rfl rfl (na := 0) rfl (by decide +kernel) ⟨rfl, rfl⟩ (by decide) ⟨Nat.zero_le _, Nat.zero_le _⟩ rfl (Nat.le_of_ble_eq_true rfl) dX8_paging_131 (fun H locs hw => ?_)
      obtain ⟨s131, es131, hw⟩ := nmM hw
      refine lv_iconst (v := 1) K.1 K.2.1 dX8_paging_134 (by decide) ?_
      have eq9 : f_X8_paging σ0 x1 x2 x4 = (s131, 1) := (by subst es131 es121; exact (Eq.trans (if_pos c1_65) (Eq.trans (if_neg c117) rfl)))
      exact ret (congrArg (fun z => mdW a cA z.1) eq9) (congrArg (fun z => z.2) eq9) hw dX8_paging_135
  · refine sw_t K dX8_paging_1 (k := 66) (tgt := 433) (by decide) (by decide) (fun c1_66 => ?_) (fun c1_66 => ?_)
    · refine lv_iconst (v := 0) K.1 K.2.1 dX8_paging_433 (by decide) ?_
      have eq9 : f_X8_paging σ0 x1 x2 x4 = (σ0, 0) := (by exact (Eq.trans (if_neg c1_65) (Eq.trans (if_pos c1_66) rfl)))
      exact ret (congrArg (fun z => mdW a cA z.1) eq9) (congrArg (fun z => z.2) eq9) hw dX8_paging_434
    · refine sw_t K dX8_paging_1 (k := 67) (tgt := 188) (by decide) (by decide) (fun c1_67 => ?_) (fun c1_67 => ?_)
      · refine lv_aload_n K.1 K.2.1 dX8_paging_188 rfl (lv_at hl 0 rfl) ?_
        refine gM_0_1 K hw kf_X8_7 dX8_paging_189 ?_
        refine lv_bipush (v := 7) K.1 K.2.1 dX8_paging_192 (by decide) ?_
        refine lv_ldc2 K.1 K.2.1 K.2.2.2.1 (K.2.2.1 _ kc_X8_234) dX8_paging_194 ?_
        refine lv_lload_n K.1 K.2.1 dX8_paging_197 rfl (lv_at hl 2 rfl) ?_
        refine lv_lmul K.1 K.2.1 dX8_paging_198 ?_
        refine lv_ldc2 K.1 K.2.1 K.2.2.2.1 (K.2.2.1 _ kc_X8_221) dX8_paging_199 ?_
        refine lv_ldiv K.1 K.2.1 dX8_paging_202 (by decide) ?_
        refine lv_aload_n K.1 K.2.1 dX8_paging_203 rfl (lv_at hl 0 rfl) ?_
        refine gM_0_8 K hw kf_X8_67 dX8_paging_204 ?_
        refine lv_i2l K.1 K.2.1 dX8_paging_207 rfl ?_
        refine lc_gt (tgt := 225) K dX8_paging_208 dX8_paging_209 (by decide) (fun c208 => ?_) (fun c208 => ?_)
        · refine lv_aload_n K.1 K.2.1 dX8_paging_225 rfl (lv_at hl 0 rfl) ?_
          refine gM_0_1 K hw kf_X8_7 dX8_paging_226 ?_
          refine lv_bipush (v := 7) K.1 K.2.1 dX8_paging_229 (by decide) ?_
          refine lM_1 K hw (vi_7 (by decide)) cl_7 dX8_paging_231 ?_
          refine sM_1 K hw (vi_7 (by decide)) cl_7 dX8_paging_232 (fun H locs hw => ?_)
          refine lv_iconst (v := 1) K.1 K.2.1 dX8_paging_233 (by decide) ?_
          have eq9 : f_X8_paging σ0 x1 x2 x4 = ((upA σ0 0 7 (σ0.2.1 0 7)), 1) := (by exact (Eq.trans (if_neg c1_65) (Eq.trans (if_neg c1_66) (Eq.trans (if_pos c1_67) (Eq.trans (if_pos c208) rfl)))))
          exact ret (congrArg (fun z => mdW a cA z.1) eq9) (congrArg (fun z => z.2) eq9) hw dX8_paging_234
        · refine lv_ldc2 K.1 K.2.1 K.2.2.2.1 (K.2.2.1 _ kc_X8_234) dX8_paging_212 ?_
          refine lv_lload_n K.1 K.2.1 dX8_paging_215 rfl (lv_at hl 2 rfl) ?_
          refine lv_lmul K.1 K.2.1 dX8_paging_216 ?_
          refine lv_ldc2 K.1 K.2.1 K.2.2.2.1 (K.2.2.1 _ kc_X8_221) dX8_paging_217 ?_
          refine lv_ldiv K.1 K.2.1 dX8_paging_220 (by decide) ?_
          refine lv_l2i K.1 K.2.1 dX8_paging_221 rfl ?_
          refine lv_goto (tgt := 232) K.1 K.2.1 dX8_paging_222 (by decide) ?_
          refine sM_1 K hw (vi_7 (by decide)) cl_7 dX8_paging_232 (fun H locs hw => ?_)
          refine lv_iconst (v := 1) K.1 K.2.1 dX8_paging_233 (by decide) ?_
          have eq9 : f_X8_paging σ0 x1 x2 x4 = ((upA σ0 0 7 (Int64.toInt32 ((150 * x2) / 10000))), 1) := (by exact (Eq.trans (if_neg c1_65) (Eq.trans (if_neg c1_66) (Eq.trans (if_pos c1_67) (Eq.trans (if_neg c208) rfl)))))
          exact ret (congrArg (fun z => mdW a cA z.1) eq9) (congrArg (fun z => z.2) eq9) hw dX8_paging_234
      · refine sw_t K dX8_paging_1 (k := 68) (tgt := 235) (by decide) (by decide) (fun c1_68 => ?_) (fun c1_68 => ?_)
        · refine lv_aload_n K.1 K.2.1 dX8_paging_235 rfl (lv_at hl 0 rfl) ?_
          refine gM_0_1 K hw kf_X8_7 dX8_paging_236 ?_
          refine lv_bipush (v := 7) K.1 K.2.1 dX8_paging_239 (by decide) ?_
          refine lv_iload K.1 K.2.1 dX8_paging_241 (lv_at hl 3 rfl) ?_
          refine caS K hw (c_X8_divides l D a cA _ _) hl.1 km_X8_236 kS_X8_divides ki_X8 kC_X8_divides (na := 1) rfl (by decide +kernel) ⟨rfl, rfl⟩ (by decide) ⟨Nat.zero_le _, Nat.zero_le _⟩ rfl (Nat.le_of_ble_eq_true rfl) dX8_paging_243 (fun H locs hw => ?_)
          refine lv_if_eq (tgt := 267) K.1 K.2.1 dX8_paging_246 (by decide) (fun c246 => ?_) (fun c246 => ?_)
          · refine lv_aload_n K.1 K.2.1 dX8_paging_267 rfl (lv_at hl 0 rfl) ?_
            refine gM_0_1 K hw kf_X8_7 dX8_paging_268 ?_
            refine lv_bipush (v := 7) K.1 K.2.1 dX8_paging_271 (by decide) ?_
            refine lM_1 K hw (vi_7 (by decide)) cl_7 dX8_paging_273 ?_
            refine sM_1 K hw (vi_7 (by decide)) cl_7 dX8_paging_274 (fun H locs hw => ?_)
            refine lv_iconst (v := 1) K.1 K.2.1 dX8_paging_275 (by decide) ?_
            have eq9 : f_X8_paging σ0 x1 x2 x4 = ((upA σ0 0 7 (σ0.2.1 0 7)), 1) := (by exact (Eq.trans (if_neg c1_65) (Eq.trans (if_neg c1_66) (Eq.trans (if_neg c1_67) (Eq.trans (if_pos c1_68) (Eq.trans (if_pos c246) rfl))))))
            exact ret (congrArg (fun z => mdW a cA z.1) eq9) (congrArg (fun z => z.2) eq9) hw dX8_paging_276
          · refine lv_sipush (v := 7200) K.1 K.2.1 dX8_paging_249 (by decide) ?_
            refine lv_iload K.1 K.2.1 dX8_paging_252 (lv_at hl 3 rfl) ?_
            refine lv_if_ne (tgt := 261) K.1 K.2.1 dX8_paging_254 (by decide) (fun c254 => ?_) (fun c254 => ?_)
            · refine lv_iload K.1 K.2.1 dX8_paging_261 (lv_at hl 3 rfl) ?_
              refine lv_idiv K.1 K.2.1 dX8_paging_263 (by first | exact (by decide) | exact c254) ?_
              refine lv_goto (tgt := 274) K.1 K.2.1 dX8_paging_264 (by decide) ?_
              refine sM_1 K hw (vi_7 (by decide)) cl_7 dX8_paging_274 (fun H locs hw => ?_)
              refine lv_iconst (v := 1) K.1 K.2.1 dX8_paging_275 (by decide) ?_
              have eq9 : f_X8_paging σ0 x1 x2 x4 = ((upA σ0 0 7 (7200 / x4)), 1) := (by exact (Eq.trans (if_neg c1_65) (Eq.trans (if_neg c1_66) (Eq.trans (if_neg c1_67) (Eq.trans (if_pos c1_68) (Eq.trans (if_neg c246) (Eq.trans (if_neg c254) rfl)))))))
              exact ret (congrArg (fun z => mdW a cA z.1) eq9) (congrArg (fun z => z.2) eq9) hw dX8_paging_276
            · refine lv_iconst (v := 1) K.1 K.2.1 dX8_paging_257 (by decide) ?_
              refine lv_goto (tgt := 263) K.1 K.2.1 dX8_paging_258 (by decide) ?_
              refine lv_idiv K.1 K.2.1 dX8_paging_263 (by first | exact (by decide) | exact c254) ?_
              refine lv_goto (tgt := 274) K.1 K.2.1 dX8_paging_264 (by decide) ?_
              refine sM_1 K hw (vi_7 (by decide)) cl_7 dX8_paging_274 (fun H locs hw => ?_)
              refine lv_iconst (v := 1) K.1 K.2.1 dX8_paging_275 (by decide) ?_
              have eq9 : f_X8_paging σ0 x1 x2 x4 = ((upA σ0 0 7 (7200 / 1)), 1) := (by exact (Eq.trans (if_neg c1_65) (Eq.trans (if_neg c1_66) (Eq.trans (if_neg c1_67) (Eq.trans (if_pos c1_68) (Eq.trans (if_neg c246) (Eq.trans (if_pos c254) rfl)))))))
              exact ret (congrArg (fun z => mdW a cA z.1) eq9) (congrArg (fun z => z.2) eq9) hw dX8_paging_276
        · refine sw_t K dX8_paging_1 (k := 69) (tgt := 277) (by decide) (by decide) (fun c1_69 => ?_) (fun c1_69 => ?_)
          · refine lv_iload K.1 K.2.1 dX8_paging_277 (lv_at hl 3 rfl) ?_
            refine lv_i2l K.1 K.2.1 dX8_paging_279 rfl ?_
            refine lv_aload_n K.1 K.2.1 dX8_paging_280 rfl (lv_at hl 0 rfl) ?_
            refine gM_0_1 K hw kf_X8_7 dX8_paging_281 ?_
            refine lv_bipush (v := 7) K.1 K.2.1 dX8_paging_284 (by decide) ?_
            refine lM_1 K hw (vi_7 (by decide)) cl_7 dX8_paging_286 ?_
            refine lv_i2l K.1 K.2.1 dX8_paging_287 rfl ?_
            refine lv_lmul K.1 K.2.1 dX8_paging_288 ?_
            refine lv_aload_n K.1 K.2.1 dX8_paging_289 rfl (lv_at hl 0 rfl) ?_
            refine gM_0_8 K hw kf_X8_67 dX8_paging_290 ?_
            refine lv_i2l K.1 K.2.1 dX8_paging_293 rfl ?_
            refine lc_gt (tgt := 357) K dX8_paging_294 dX8_paging_295 (by decide) (fun c294 => ?_) (fun c294 => ?_)
            · refine lv_iconst (v := 1) K.1 K.2.1 dX8_paging_357 (by decide) ?_
              have eq9 : f_X8_paging σ0 x1 x2 x4 = (σ0, 1) := (by exact (Eq.trans (if_neg c1_65) (Eq.trans (if_neg c1_66) (Eq.trans (if_neg c1_67) (Eq.trans (if_neg c1_68) (Eq.trans (if_pos c1_69) (Eq.trans (if_pos c294) rfl)))))))
              exact ret (congrArg (fun z => mdW a cA z.1) eq9) (congrArg (fun z => z.2) eq9) hw dX8_paging_358
            · refine lv_aload_n K.1 K.2.1 dX8_paging_298 rfl (lv_at hl 0 rfl) ?_
              refine gM_0_1 K hw kf_X8_7 dX8_paging_299 ?_
              refine lv_iconst (v := 4) K.1 K.2.1 dX8_paging_302 (by decide) ?_
              refine lv_iload K.1 K.2.1 dX8_paging_303 (lv_at hl 3 rfl) ?_
              refine lv_aload_n K.1 K.2.1 dX8_paging_305 rfl (lv_at hl 0 rfl) ?_
              refine gM_0_1 K hw kf_X8_7 dX8_paging_306 ?_
              refine lv_bipush (v := 7) K.1 K.2.1 dX8_paging_309 (by decide) ?_
              refine lM_1 K hw (vi_7 (by decide)) cl_7 dX8_paging_311 ?_
              refine lv_imul K.1 K.2.1 dX8_paging_312 ?_
              refine sM_1 K hw (vi_4 (by decide)) cl_4 dX8_paging_313 (fun H locs hw => ?_)
              refine lv_aload_n K.1 K.2.1 dX8_paging_314 rfl (lv_at hl 0 rfl) ?_
              refine gM_0_1 K hw kf_X8_7 dX8_paging_315 ?_
              refine lv_iconst (v := 5) K.1 K.2.1 dX8_paging_318 (by decide) ?_
              refine lv_aload_n K.1 K.2.1 dX8_paging_319 rfl (lv_at hl 0 rfl) ?_
              refine gM_0_8 K hw kf_X8_67 dX8_paging_320 ?_
              refine lv_aload_n K.1 K.2.1 dX8_paging_323 rfl (lv_at hl 0 rfl) ?_
              refine gM_0_1 K hw kf_X8_7 dX8_paging_324 ?_
              refine lv_iconst (v := 4) K.1 K.2.1 dX8_paging_327 (by decide) ?_
              refine lM_1 K hw (vi_4 (by decide)) cl_4 dX8_paging_328 ?_
              refine lv_isub K.1 K.2.1 dX8_paging_329 ?_
              refine lv_sipush (v := 3600) K.1 K.2.1 dX8_paging_330 (by decide) ?_
              refine lv_isub K.1 K.2.1 dX8_paging_333 ?_
              refine lv_if_ge (tgt := 341) K.1 K.2.1 dX8_paging_334 (by decide) (fun c334 => ?_) (fun c334 => ?_)
              · refine lv_aload_n K.1 K.2.1 dX8_paging_341 rfl (lv_at hl 0 rfl) ?_
                refine gM_0_8 K hw kf_X8_67 dX8_paging_342 ?_
                refine lv_aload_n K.1 K.2.1 dX8_paging_345 rfl (lv_at hl 0 rfl) ?_
                refine gM_0_1 K hw kf_X8_7 dX8_paging_346 ?_
                refine lv_iconst (v := 4) K.1 K.2.1 dX8_paging_349 (by decide) ?_
                refine lM_1 K hw (vi_4 (by decide)) cl_4 dX8_paging_350 ?_
                refine lv_isub K.1 K.2.1 dX8_paging_351 ?_
                refine lv_sipush (v := 3600) K.1 K.2.1 dX8_paging_352 (by decide) ?_
                refine lv_isub K.1 K.2.1 dX8_paging_355 ?_
                refine sM_1 K hw (vi_5 (by decide)) cl_5 dX8_paging_356 (fun H locs hw => ?_)
                refine lv_iconst (v := 1) K.1 K.2.1 dX8_paging_357 (by decide) ?_
                have eq9 : f_X8_paging σ0 x1 x2 x4 = ((upA (upA σ0 0 4 (x4 * (σ0.2.1 0 7))) 0 5 (((σ0.1 8) - (x4 * (σ0.2.1 0 7))) - 3600)), 1) := (by exact (Eq.trans (if_neg c1_65) (Eq.trans (if_neg c1_66) (Eq.trans (if_neg c1_67) (Eq.trans (if_neg c1_68) (Eq.trans (if_pos c1_69) (Eq.trans (if_neg c294) (Eq.trans (if_pos c334) rfl))))))))
                exact ret (congrArg (fun z => mdW a cA z.1) eq9) (congrArg (fun z => z.2) eq9) hw dX8_paging_358
              · refine lv_iconst (v := 0) K.1 K.2.1 dX8_paging_337 (by decide) ?_
                refine lv_goto (tgt := 356) K.1 K.2.1 dX8_paging_338 (by decide) ?_
                refine sM_1 K hw (vi_5 (by decide)) cl_5 dX8_paging_356 (fun H locs hw => ?_)
                refine lv_iconst (v := 1) K.1 K.2.1 dX8_paging_357 (by decide) ?_
                have eq9 : f_X8_paging σ0 x1 x2 x4 = ((upA (upA σ0 0 4 (x4 * (σ0.2.1 0 7))) 0 5 0), 1) := (by exact (Eq.trans (if_neg c1_65) (Eq.trans (if_neg c1_66) (Eq.trans (if_neg c1_67) (Eq.trans (if_neg c1_68) (Eq.trans (if_pos c1_69) (Eq.trans (if_neg c294) (Eq.trans (if_neg c334) rfl))))))))
                exact ret (congrArg (fun z => mdW a cA z.1) eq9) (congrArg (fun z => z.2) eq9) hw dX8_paging_358
          · refine sw_t K dX8_paging_1 (k := 70) (tgt := 359) (by decide) (by decide) (fun c1_70 => ?_) (fun c1_70 => ?_)
            · refine lv_aload_n K.1 K.2.1 dX8_paging_359 rfl (lv_at hl 0 rfl) ?_
              refine gM_0_1 K hw kf_X8_7 dX8_paging_360 ?_
              refine lv_iconst (v := 4) K.1 K.2.1 dX8_paging_363 (by decide) ?_
              refine lM_1 K hw (vi_4 (by decide)) cl_4 dX8_paging_364 ?_
              refine lv_i2l K.1 K.2.1 dX8_paging_365 rfl ?_
              refine lv_iload K.1 K.2.1 dX8_paging_366 (lv_at hl 3 rfl) ?_
              refine lv_i2l K.1 K.2.1 dX8_paging_368 rfl ?_
              refine lv_aload_n K.1 K.2.1 dX8_paging_369 rfl (lv_at hl 0 rfl) ?_
              refine gM_0_1 K hw kf_X8_7 dX8_paging_370 ?_
              refine lv_bipush (v := 7) K.1 K.2.1 dX8_paging_373 (by decide) ?_
              refine lM_1 K hw (vi_7 (by decide)) cl_7 dX8_paging_375 ?_
              refine lv_i2l K.1 K.2.1 dX8_paging_376 rfl ?_
              refine lv_lmul K.1 K.2.1 dX8_paging_377 ?_
              refine lv_ladd K.1 K.2.1 dX8_paging_378 ?_
              refine lv_aload_n K.1 K.2.1 dX8_paging_379 rfl (lv_at hl 0 rfl) ?_
              refine gM_0_8 K hw kf_X8_67 dX8_paging_380 ?_
              refine lv_i2l K.1 K.2.1 dX8_paging_383 rfl ?_
              refine lc_gt (tgt := 404) K dX8_paging_384 dX8_paging_385 (by decide) (fun c384 => ?_) (fun c384 => ?_)
              · refine lv_iconst (v := 1) K.1 K.2.1 dX8_paging_404 (by decide) ?_
                have eq9 : f_X8_paging σ0 x1 x2 x4 = (σ0, 1) := (by exact (Eq.trans (if_neg c1_65) (Eq.trans (if_neg c1_66) (Eq.trans (if_neg c1_67) (Eq.trans (if_neg c1_68) (Eq.trans (if_neg c1_69) (Eq.trans (if_pos c1_70) (Eq.trans (if_pos c384) rfl))))))))
                exact ret (congrArg (fun z => mdW a cA z.1) eq9) (congrArg (fun z => z.2) eq9) hw dX8_paging_405
              · refine lv_aload_n K.1 K.2.1 dX8_paging_388 rfl (lv_at hl 0 rfl) ?_
                refine gM_0_1 K hw kf_X8_7 dX8_paging_389 ?_
                refine lv_iconst (v := 5) K.1 K.2.1 dX8_paging_392 (by decide) ?_
                refine lv_iload K.1 K.2.1 dX8_paging_393 (lv_at hl 3 rfl) ?_
                refine lv_aload_n K.1 K.2.1 dX8_paging_395 rfl (lv_at hl 0 rfl) ?_
                refine gM_0_1 K hw kf_X8_7 dX8_paging_396 ?_
                refine lv_bipush (v := 7) K.1 K.2.1 dX8_paging_399 (by decide) ?_
                refine lM_1 K hw (vi_7 (by decide)) cl_7 dX8_paging_401 ?_
                refine lv_imul K.1 K.2.1 dX8_paging_402 ?_
                refine sM_1 K hw (vi_5 (by decide)) cl_5 dX8_paging_403 (fun H locs hw => ?_)
                refine lv_iconst (v := 1) K.1 K.2.1 dX8_paging_404 (by decide) ?_
                have eq9 : f_X8_paging σ0 x1 x2 x4 = ((upA σ0 0 5 (x4 * (σ0.2.1 0 7))), 1) := (by exact (Eq.trans (if_neg c1_65) (Eq.trans (if_neg c1_66) (Eq.trans (if_neg c1_67) (Eq.trans (if_neg c1_68) (Eq.trans (if_neg c1_69) (Eq.trans (if_pos c1_70) (Eq.trans (if_neg c384) rfl))))))))
                exact ret (congrArg (fun z => mdW a cA z.1) eq9) (congrArg (fun z => z.2) eq9) hw dX8_paging_405
            · refine sw_t K dX8_paging_1 (k := 71) (tgt := 433) (by decide) (by decide) (fun c1_71 => ?_) (fun c1_71 => ?_)
              · refine lv_iconst (v := 0) K.1 K.2.1 dX8_paging_433 (by decide) ?_
                have eq9 : f_X8_paging σ0 x1 x2 x4 = (σ0, 0) := (by exact (Eq.trans (if_neg c1_65) (Eq.trans (if_neg c1_66) (Eq.trans (if_neg c1_67) (Eq.trans (if_neg c1_68) (Eq.trans (if_neg c1_69) (Eq.trans (if_neg c1_70) (Eq.trans (if_pos c1_71) rfl))))))))
                exact ret (congrArg (fun z => mdW a cA z.1) eq9) (congrArg (fun z => z.2) eq9) hw dX8_paging_434
              · refine sw_t K dX8_paging_1 (k := 72) (tgt := 433) (by decide) (by decide) (fun c1_72 => ?_) (fun c1_72 => ?_)
                · refine lv_iconst (v := 0) K.1 K.2.1 dX8_paging_433 (by decide) ?_
                  have eq9 : f_X8_paging σ0 x1 x2 x4 = (σ0, 0) := (by exact (Eq.trans (if_neg c1_65) (Eq.trans (if_neg c1_66) (Eq.trans (if_neg c1_67) (Eq.trans (if_neg c1_68) (Eq.trans (if_neg c1_69) (Eq.trans (if_neg c1_70) (Eq.trans (if_neg c1_71) (Eq.trans (if_pos c1_72) rfl)))))))))
                  exact ret (congrArg (fun z => mdW a cA z.1) eq9) (congrArg (fun z => z.2) eq9) hw dX8_paging_434
                · refine sw_t K dX8_paging_1 (k := 73) (tgt := 433) (by decide) (by decide) (fun c1_73 => ?_) (fun c1_73 => ?_)
                  · refine lv_iconst (v := 0) K.1 K.2.1 dX8_paging_433 (by decide) ?_
                    have eq9 : f_X8_paging σ0 x1 x2 x4 = (σ0, 0) := (by exact (Eq.trans (if_neg c1_65) (Eq.trans (if_neg c1_66) (Eq.trans (if_neg c1_67) (Eq.trans (if_neg c1_68) (Eq.trans (if_neg c1_69) (Eq.trans (if_neg c1_70) (Eq.trans (if_neg c1_71) (Eq.trans (if_neg c1_72) (Eq.trans (if_pos c1_73) rfl))))))))))
                    exact ret (congrArg (fun z => mdW a cA z.1) eq9) (congrArg (fun z => z.2) eq9) hw dX8_paging_434
                  · refine sw_t K dX8_paging_1 (k := 74) (tgt := 433) (by decide) (by decide) (fun c1_74 => ?_) (fun c1_74 => ?_)
                    · refine lv_iconst (v := 0) K.1 K.2.1 dX8_paging_433 (by decide) ?_
                      have eq9 : f_X8_paging σ0 x1 x2 x4 = (σ0, 0) := (by exact (Eq.trans (if_neg c1_65) (Eq.trans (if_neg c1_66) (Eq.trans (if_neg c1_67) (Eq.trans (if_neg c1_68) (Eq.trans (if_neg c1_69) (Eq.trans (if_neg c1_70) (Eq.trans (if_neg c1_71) (Eq.trans (if_neg c1_72) (Eq.trans (if_neg c1_73) (Eq.trans (if_pos c1_74) rfl)))))))))))
                      exact ret (congrArg (fun z => mdW a cA z.1) eq9) (congrArg (fun z => z.2) eq9) hw dX8_paging_434
                    · refine sw_t K dX8_paging_1 (k := 75) (tgt := 433) (by decide) (by decide) (fun c1_75 => ?_) (fun c1_75 => ?_)
                      · refine lv_iconst (v := 0) K.1 K.2.1 dX8_paging_433 (by decide) ?_
                        have eq9 : f_X8_paging σ0 x1 x2 x4 = (σ0, 0) := (by exact (Eq.trans (if_neg c1_65) (Eq.trans (if_neg c1_66) (Eq.trans (if_neg c1_67) (Eq.trans (if_neg c1_68) (Eq.trans (if_neg c1_69) (Eq.trans (if_neg c1_70) (Eq.trans (if_neg c1_71) (Eq.trans (if_neg c1_72) (Eq.trans (if_neg c1_73) (Eq.trans (if_neg c1_74) (Eq.trans (if_pos c1_75) rfl))))))))))))
                        exact ret (congrArg (fun z => mdW a cA z.1) eq9) (congrArg (fun z => z.2) eq9) hw dX8_paging_434
                      · refine sw_t K dX8_paging_1 (k := 76) (tgt := 406) (by decide) (by decide) (fun c1_76 => ?_) (fun c1_76 => ?_)
                        · refine lv_aload_n K.1 K.2.1 dX8_paging_406 rfl (lv_at hl 0 rfl) ?_
                          refine gM_0_1 K hw kf_X8_7 dX8_paging_407 ?_
                          refine lv_bipush (v := 9) K.1 K.2.1 dX8_paging_410 (by decide) ?_
                          refine lv_iload K.1 K.2.1 dX8_paging_412 (lv_at hl 3 rfl) ?_
                          refine lv_iconst (v := 2) K.1 K.2.1 dX8_paging_414 (by decide) ?_
                          refine lv_icmp_ge (tgt := 423) K.1 K.2.1 dX8_paging_415 (by decide) (fun c415 => ?_) (fun c415 => ?_)
                          · refine lv_aload_n K.1 K.2.1 dX8_paging_423 rfl (lv_at hl 0 rfl) ?_
                            refine gM_0_1 K hw kf_X8_7 dX8_paging_424 ?_
                            refine lv_bipush (v := 9) K.1 K.2.1 dX8_paging_427 (by decide) ?_
                            refine lM_1 K hw (vi_9 (by decide)) cl_9 dX8_paging_429 ?_
                            refine sM_1 K hw (vi_9 (by decide)) cl_9 dX8_paging_430 (fun H locs hw => ?_)
                            refine lv_iconst (v := 1) K.1 K.2.1 dX8_paging_431 (by decide) ?_
                            have eq9 : f_X8_paging σ0 x1 x2 x4 = ((upA σ0 0 9 (σ0.2.1 0 9)), 1) := (by exact (Eq.trans (if_neg c1_65) (Eq.trans (if_neg c1_66) (Eq.trans (if_neg c1_67) (Eq.trans (if_neg c1_68) (Eq.trans (if_neg c1_69) (Eq.trans (if_neg c1_70) (Eq.trans (if_neg c1_71) (Eq.trans (if_neg c1_72) (Eq.trans (if_neg c1_73) (Eq.trans (if_neg c1_74) (Eq.trans (if_neg c1_75) (Eq.trans (if_pos c1_76) (Eq.trans (if_pos c415) rfl))))))))))))))
                            exact ret (congrArg (fun z => mdW a cA z.1) eq9) (congrArg (fun z => z.2) eq9) hw dX8_paging_432
                          · refine lv_iload K.1 K.2.1 dX8_paging_418 (lv_at hl 3 rfl) ?_
                            refine lv_goto (tgt := 430) K.1 K.2.1 dX8_paging_420 (by decide) ?_
                            refine sM_1 K hw (vi_9 (by decide)) cl_9 dX8_paging_430 (fun H locs hw => ?_)
                            refine lv_iconst (v := 1) K.1 K.2.1 dX8_paging_431 (by decide) ?_
                            have eq9 : f_X8_paging σ0 x1 x2 x4 = ((upA σ0 0 9 x4), 1) := (by exact (Eq.trans (if_neg c1_65) (Eq.trans (if_neg c1_66) (Eq.trans (if_neg c1_67) (Eq.trans (if_neg c1_68) (Eq.trans (if_neg c1_69) (Eq.trans (if_neg c1_70) (Eq.trans (if_neg c1_71) (Eq.trans (if_neg c1_72) (Eq.trans (if_neg c1_73) (Eq.trans (if_neg c1_74) (Eq.trans (if_neg c1_75) (Eq.trans (if_pos c1_76) (Eq.trans (if_neg c415) rfl))))))))))))))
                            exact ret (congrArg (fun z => mdW a cA z.1) eq9) (congrArg (fun z => z.2) eq9) hw dX8_paging_432
                        · refine sw_t K dX8_paging_1 (k := 77) (tgt := 433) (by decide) (by decide) (fun c1_77 => ?_) (fun c1_77 => ?_)
                          · refine lv_iconst (v := 0) K.1 K.2.1 dX8_paging_433 (by decide) ?_
                            have eq9 : f_X8_paging σ0 x1 x2 x4 = (σ0, 0) := (by exact (Eq.trans (if_neg c1_65) (Eq.trans (if_neg c1_66) (Eq.trans (if_neg c1_67) (Eq.trans (if_neg c1_68) (Eq.trans (if_neg c1_69) (Eq.trans (if_neg c1_70) (Eq.trans (if_neg c1_71) (Eq.trans (if_neg c1_72) (Eq.trans (if_neg c1_73) (Eq.trans (if_neg c1_74) (Eq.trans (if_neg c1_75) (Eq.trans (if_neg c1_76) (Eq.trans (if_pos c1_77) rfl))))))))))))))
                            exact ret (congrArg (fun z => mdW a cA z.1) eq9) (congrArg (fun z => z.2) eq9) hw dX8_paging_434
                          · refine sw_t K dX8_paging_1 (k := 78) (tgt := 433) (by decide) (by decide) (fun c1_78 => ?_) (fun c1_78 => ?_)
                            · refine lv_iconst (v := 0) K.1 K.2.1 dX8_paging_433 (by decide) ?_
                              have eq9 : f_X8_paging σ0 x1 x2 x4 = (σ0, 0) := (by exact (Eq.trans (if_neg c1_65) (Eq.trans (if_neg c1_66) (Eq.trans (if_neg c1_67) (Eq.trans (if_neg c1_68) (Eq.trans (if_neg c1_69) (Eq.trans (if_neg c1_70) (Eq.trans (if_neg c1_71) (Eq.trans (if_neg c1_72) (Eq.trans (if_neg c1_73) (Eq.trans (if_neg c1_74) (Eq.trans (if_neg c1_75) (Eq.trans (if_neg c1_76) (Eq.trans (if_neg c1_77) (Eq.trans (if_pos c1_78) rfl)))))))))))))))
                              exact ret (congrArg (fun z => mdW a cA z.1) eq9) (congrArg (fun z => z.2) eq9) hw dX8_paging_434
                            · refine sw_t K dX8_paging_1 (k := 79) (tgt := 136) (by decide) (by decide) (fun c1_79 => ?_) (fun c1_79 => ?_)
                              · refine lv_iload K.1 K.2.1 dX8_paging_136 (lv_at hl 3 rfl) ?_
                                refine lv_iconst (v := 4) K.1 K.2.1 dX8_paging_138 (by decide) ?_
                                refine lv_icmp_ge (tgt := 156) K.1 K.2.1 dX8_paging_139 (by decide) (fun c139 => ?_) (fun c139 => ?_)
                                · refine lv_iconst (v := 1) K.1 K.2.1 dX8_paging_156 (by decide) ?_
                                  have eq9 : f_X8_paging σ0 x1 x2 x4 = (σ0, 1) := (by exact (Eq.trans (if_neg c1_65) (Eq.trans (if_neg c1_66) (Eq.trans (if_neg c1_67) (Eq.trans (if_neg c1_68) (Eq.trans (if_neg c1_69) (Eq.trans (if_neg c1_70) (Eq.trans (if_neg c1_71) (Eq.trans (if_neg c1_72) (Eq.trans (if_neg c1_73) (Eq.trans (if_neg c1_74) (Eq.trans (if_neg c1_75) (Eq.trans (if_neg c1_76) (Eq.trans (if_neg c1_77) (Eq.trans (if_neg c1_78) (Eq.trans (if_pos c1_79) (Eq.trans (if_pos c139) rfl)))))))))))))))))
                                  exact ret (congrArg (fun z => mdW a cA z.1) eq9) (congrArg (fun z => z.2) eq9) hw dX8_paging_157
                                · refine lv_aload_n K.1 K.2.1 dX8_paging_142 rfl (lv_at hl 0 rfl) ?_
                                  refine caV K hw (c_X8_ejectIfDue l D a cA _ hp) hl.1 (tt_V km_X8_122 kI_X8_ejectIfDue ks_X8_ejectIfDue ki_X8 kC_X8_ejectIfDue) 0 (ci := 8) rfl rfl rfl (na := 0) rfl (by decide +kernel) ⟨rfl, rfl⟩ (by decide) ⟨Nat.zero_le _, Nat.zero_le _⟩ rfl (Nat.le_of_ble_eq_true rfl) dX8_paging_143 (fun H locs hw => ?_)
                                  obtain ⟨s143, es143, hw⟩ := nmM hw
                                  refine lv_aload_n K.1 K.2.1 dX8_paging_146 rfl (lv_at hl 0 rfl) ?_
                                  refine lv_iload K.1 K.2.1 dX8_paging_147 (lv_at hl 3 rfl) ?_
                                  refine pM_0_5 K hw kf_X8_51 dX8_paging_149 (fun H locs hw => ?_)
                                  refine lv_aload_n K.1 K.2.1 dX8_paging_152 rfl (lv_at hl 0 rfl) ?_
                                  refine caV K hw (c_X8_defaults l D a cA _) hl.1 (tt_V km_X8_91 kI_X8_defaults ks_X8_defaults ki_X8 kC_X8_defaults) 0 (ci := 8) rfl rfl rfl (na := 0) rfl (by decide +kernel) ⟨rfl, rfl⟩ (by decide) ⟨Nat.zero_le _, Nat.zero_le _⟩ rfl (Nat.le_of_ble_eq_true rfl) dX8_paging_153 (fun H locs hw => ?_)
                                  obtain ⟨s153, es153, hw⟩ := nmM hw
                                  refine lv_iconst (v := 1) K.1 K.2.1 dX8_paging_156 (by decide) ?_
                                  have eq9 : f_X8_paging σ0 x1 x2 x4 = (s153, 1) := (by subst es153 es143; exact (Eq.trans (if_neg c1_65) (Eq.trans (if_neg c1_66) (Eq.trans (if_neg c1_67) (Eq.trans (if_neg c1_68) (Eq.trans (if_neg c1_69) (Eq.trans (if_neg c1_70) (Eq.trans (if_neg c1_71) (Eq.trans (if_neg c1_72) (Eq.trans (if_neg c1_73) (Eq.trans (if_neg c1_74) (Eq.trans (if_neg c1_75) (Eq.trans (if_neg c1_76) (Eq.trans (if_neg c1_77) (Eq.trans (if_neg c1_78) (Eq.trans (if_pos c1_79) (Eq.trans (if_neg c139) rfl)))))))))))))))))
                                  exact ret (congrArg (fun z => mdW a cA z.1) eq9) (congrArg (fun z => z.2) eq9) hw dX8_paging_157
                              · refine sw_t K dX8_paging_1 (k := 80) (tgt := 433) (by decide) (by decide) (fun c1_80 => ?_) (fun c1_80 => ?_)
                                · refine lv_iconst (v := 0) K.1 K.2.1 dX8_paging_433 (by decide) ?_
                                  have eq9 : f_X8_paging σ0 x1 x2 x4 = (σ0, 0) := (by exact (Eq.trans (if_neg c1_65) (Eq.trans (if_neg c1_66) (Eq.trans (if_neg c1_67) (Eq.trans (if_neg c1_68) (Eq.trans (if_neg c1_69) (Eq.trans (if_neg c1_70) (Eq.trans (if_neg c1_71) (Eq.trans (if_neg c1_72) (Eq.trans (if_neg c1_73) (Eq.trans (if_neg c1_74) (Eq.trans (if_neg c1_75) (Eq.trans (if_neg c1_76) (Eq.trans (if_neg c1_77) (Eq.trans (if_neg c1_78) (Eq.trans (if_neg c1_79) (Eq.trans (if_pos c1_80) rfl)))))))))))))))))
                                  exact ret (congrArg (fun z => mdW a cA z.1) eq9) (congrArg (fun z => z.2) eq9) hw dX8_paging_434
                                · refine sw_t K dX8_paging_1 (k := 81) (tgt := 433) (by decide) (by decide) (fun c1_81 => ?_) (fun c1_81 => ?_)
                                  · refine lv_iconst (v := 0) K.1 K.2.1 dX8_paging_433 (by decide) ?_
                                    have eq9 : f_X8_paging σ0 x1 x2 x4 = (σ0, 0) := (by exact (Eq.trans (if_neg c1_65) (Eq.trans (if_neg c1_66) (Eq.trans (if_neg c1_67) (Eq.trans (if_neg c1_68) (Eq.trans (if_neg c1_69) (Eq.trans (if_neg c1_70) (Eq.trans (if_neg c1_71) (Eq.trans (if_neg c1_72) (Eq.trans (if_neg c1_73) (Eq.trans (if_neg c1_74) (Eq.trans (if_neg c1_75) (Eq.trans (if_neg c1_76) (Eq.trans (if_neg c1_77) (Eq.trans (if_neg c1_78) (Eq.trans (if_neg c1_79) (Eq.trans (if_neg c1_80) (Eq.trans (if_pos c1_81) rfl))))))))))))))))))
                                    exact ret (congrArg (fun z => mdW a cA z.1) eq9) (congrArg (fun z => z.2) eq9) hw dX8_paging_434
                                  · refine sw_t K dX8_paging_1 (k := 82) (tgt := 433) (by decide) (by decide) (fun c1_82 => ?_) (fun c1_82 => ?_)
                                    · refine lv_iconst (v := 0) K.1 K.2.1 dX8_paging_433 (by decide) ?_
                                      have eq9 : f_X8_paging σ0 x1 x2 x4 = (σ0, 0) := (by exact (Eq.trans (if_neg c1_65) (Eq.trans (if_neg c1_66) (Eq.trans (if_neg c1_67) (Eq.trans (if_neg c1_68) (Eq.trans (if_neg c1_69) (Eq.trans (if_neg c1_70) (Eq.trans (if_neg c1_71) (Eq.trans (if_neg c1_72) (Eq.trans (if_neg c1_73) (Eq.trans (if_neg c1_74) (Eq.trans (if_neg c1_75) (Eq.trans (if_neg c1_76) (Eq.trans (if_neg c1_77) (Eq.trans (if_neg c1_78) (Eq.trans (if_neg c1_79) (Eq.trans (if_neg c1_80) (Eq.trans (if_neg c1_81) (Eq.trans (if_pos c1_82) rfl)))))))))))))))))))
                                      exact ret (congrArg (fun z => mdW a cA z.1) eq9) (congrArg (fun z => z.2) eq9) hw dX8_paging_434
                                    · refine sw_t K dX8_paging_1 (k := 83) (tgt := 433) (by decide) (by decide) (fun c1_83 => ?_) (fun c1_83 => ?_)
                                      · refine lv_iconst (v := 0) K.1 K.2.1 dX8_paging_433 (by decide) ?_
                                        have eq9 : f_X8_paging σ0 x1 x2 x4 = (σ0, 0) := (by exact (Eq.trans (if_neg c1_65) (Eq.trans (if_neg c1_66) (Eq.trans (if_neg c1_67) (Eq.trans (if_neg c1_68) (Eq.trans (if_neg c1_69) (Eq.trans (if_neg c1_70) (Eq.trans (if_neg c1_71) (Eq.trans (if_neg c1_72) (Eq.trans (if_neg c1_73) (Eq.trans (if_neg c1_74) (Eq.trans (if_neg c1_75) (Eq.trans (if_neg c1_76) (Eq.trans (if_neg c1_77) (Eq.trans (if_neg c1_78) (Eq.trans (if_neg c1_79) (Eq.trans (if_neg c1_80) (Eq.trans (if_neg c1_81) (Eq.trans (if_neg c1_82) (Eq.trans (if_pos c1_83) rfl))))))))))))))))))))
                                        exact ret (congrArg (fun z => mdW a cA z.1) eq9) (congrArg (fun z => z.2) eq9) hw dX8_paging_434
                                      · refine sw_t K dX8_paging_1 (k := 84) (tgt := 433) (by decide) (by decide) (fun c1_84 => ?_) (fun c1_84 => ?_)
                                        · refine lv_iconst (v := 0) K.1 K.2.1 dX8_paging_433 (by decide) ?_
                                          have eq9 : f_X8_paging σ0 x1 x2 x4 = (σ0, 0) := (by exact (Eq.trans (if_neg c1_65) (Eq.trans (if_neg c1_66) (Eq.trans (if_neg c1_67) (Eq.trans (if_neg c1_68) (Eq.trans (if_neg c1_69) (Eq.trans (if_neg c1_70) (Eq.trans (if_neg c1_71) (Eq.trans (if_neg c1_72) (Eq.trans (if_neg c1_73) (Eq.trans (if_neg c1_74) (Eq.trans (if_neg c1_75) (Eq.trans (if_neg c1_76) (Eq.trans (if_neg c1_77) (Eq.trans (if_neg c1_78) (Eq.trans (if_neg c1_79) (Eq.trans (if_neg c1_80) (Eq.trans (if_neg c1_81) (Eq.trans (if_neg c1_82) (Eq.trans (if_neg c1_83) (Eq.trans (if_pos c1_84) rfl)))))))))))))))))))))
                                          exact ret (congrArg (fun z => mdW a cA z.1) eq9) (congrArg (fun z => z.2) eq9) hw dX8_paging_434
                                        · refine sw_t K dX8_paging_1 (k := 85) (tgt := 433) (by decide) (by decide) (fun c1_85 => ?_) (fun c1_85 => ?_)
                                          · refine lv_iconst (v := 0) K.1 K.2.1 dX8_paging_433 (by decide) ?_
                                            have eq9 : f_X8_paging σ0 x1 x2 x4 = (σ0, 0) := (by exact (Eq.trans (if_neg c1_65) (Eq.trans (if_neg c1_66) (Eq.trans (if_neg c1_67) (Eq.trans (if_neg c1_68) (Eq.trans (if_neg c1_69) (Eq.trans (if_neg c1_70) (Eq.trans (if_neg c1_71) (Eq.trans (if_neg c1_72) (Eq.trans (if_neg c1_73) (Eq.trans (if_neg c1_74) (Eq.trans (if_neg c1_75) (Eq.trans (if_neg c1_76) (Eq.trans (if_neg c1_77) (Eq.trans (if_neg c1_78) (Eq.trans (if_neg c1_79) (Eq.trans (if_neg c1_80) (Eq.trans (if_neg c1_81) (Eq.trans (if_neg c1_82) (Eq.trans (if_neg c1_83) (Eq.trans (if_neg c1_84) (Eq.trans (if_pos c1_85) rfl))))))))))))))))))))))
                                            exact ret (congrArg (fun z => mdW a cA z.1) eq9) (congrArg (fun z => z.2) eq9) hw dX8_paging_434
                                          · refine sw_t K dX8_paging_1 (k := 86) (tgt := 433) (by decide) (by decide) (fun c1_86 => ?_) (fun c1_86 => ?_)
                                            · refine lv_iconst (v := 0) K.1 K.2.1 dX8_paging_433 (by decide) ?_
                                              have eq9 : f_X8_paging σ0 x1 x2 x4 = (σ0, 0) := (by exact (Eq.trans (if_neg c1_65) (Eq.trans (if_neg c1_66) (Eq.trans (if_neg c1_67) (Eq.trans (if_neg c1_68) (Eq.trans (if_neg c1_69) (Eq.trans (if_neg c1_70) (Eq.trans (if_neg c1_71) (Eq.trans (if_neg c1_72) (Eq.trans (if_neg c1_73) (Eq.trans (if_neg c1_74) (Eq.trans (if_neg c1_75) (Eq.trans (if_neg c1_76) (Eq.trans (if_neg c1_77) (Eq.trans (if_neg c1_78) (Eq.trans (if_neg c1_79) (Eq.trans (if_neg c1_80) (Eq.trans (if_neg c1_81) (Eq.trans (if_neg c1_82) (Eq.trans (if_neg c1_83) (Eq.trans (if_neg c1_84) (Eq.trans (if_neg c1_85) (Eq.trans (if_pos c1_86) rfl)))))))))))))))))))))))
                                              exact ret (congrArg (fun z => mdW a cA z.1) eq9) (congrArg (fun z => z.2) eq9) hw dX8_paging_434
                                            · refine sw_t K dX8_paging_1 (k := 87) (tgt := 433) (by decide) (by decide) (fun c1_87 => ?_) (fun c1_87 => ?_)
                                              · refine lv_iconst (v := 0) K.1 K.2.1 dX8_paging_433 (by decide) ?_
                                                have eq9 : f_X8_paging σ0 x1 x2 x4 = (σ0, 0) := (by exact (Eq.trans (if_neg c1_65) (Eq.trans (if_neg c1_66) (Eq.trans (if_neg c1_67) (Eq.trans (if_neg c1_68) (Eq.trans (if_neg c1_69) (Eq.trans (if_neg c1_70) (Eq.trans (if_neg c1_71) (Eq.trans (if_neg c1_72) (Eq.trans (if_neg c1_73) (Eq.trans (if_neg c1_74) (Eq.trans (if_neg c1_75) (Eq.trans (if_neg c1_76) (Eq.trans (if_neg c1_77) (Eq.trans (if_neg c1_78) (Eq.trans (if_neg c1_79) (Eq.trans (if_neg c1_80) (Eq.trans (if_neg c1_81) (Eq.trans (if_neg c1_82) (Eq.trans (if_neg c1_83) (Eq.trans (if_neg c1_84) (Eq.trans (if_neg c1_85) (Eq.trans (if_neg c1_86) (Eq.trans (if_pos c1_87) rfl))))))))))))))))))))))))
                                                exact ret (congrArg (fun z => mdW a cA z.1) eq9) (congrArg (fun z => z.2) eq9) hw dX8_paging_434
                                              · refine sw_t K dX8_paging_1 (k := 88) (tgt := 158) (by decide) (by decide) (fun c1_88 => ?_) (fun c1_88 => ?_)
                                                · refine lv_aload_n K.1 K.2.1 dX8_paging_158 rfl (lv_at hl 0 rfl) ?_
                                                  refine lv_iload K.1 K.2.1 dX8_paging_159 (lv_at hl 3 rfl) ?_
                                                  refine lv_iconst (v := 1) K.1 K.2.1 dX8_paging_161 (by decide) ?_
                                                  refine lv_icmp_ge (tgt := 169) K.1 K.2.1 dX8_paging_162 (by decide) (fun c162 => ?_) (fun c162 => ?_)
                                                  · refine lv_iload K.1 K.2.1 dX8_paging_169 (lv_at hl 3 rfl) ?_
                                                    refine lv_bipush (v := 99) K.1 K.2.1 dX8_paging_171 (by decide) ?_
                                                    refine lv_icmp_le (tgt := 181) K.1 K.2.1 dX8_paging_173 (by decide) (fun c173 => ?_) (fun c173 => ?_)
                                                    · refine lv_iload K.1 K.2.1 dX8_paging_181 (lv_at hl 3 rfl) ?_
                                                      refine pM_0_6 K hw kf_X8_88 dX8_paging_183 (fun H locs hw => ?_)
                                                      refine lv_iconst (v := 1) K.1 K.2.1 dX8_paging_186 (by decide) ?_
                                                      have eq9 : f_X8_paging σ0 x1 x2 x4 = ((upS σ0 6 x4), 1) := (by exact (Eq.trans (if_neg c1_65) (Eq.trans (if_neg c1_66) (Eq.trans (if_neg c1_67) (Eq.trans (if_neg c1_68) (Eq.trans (if_neg c1_69) (Eq.trans (if_neg c1_70) (Eq.trans (if_neg c1_71) (Eq.trans (if_neg c1_72) (Eq.trans (if_neg c1_73) (Eq.trans (if_neg c1_74) (Eq.trans (if_neg c1_75) (Eq.trans (if_neg c1_76) (Eq.trans (if_neg c1_77) (Eq.trans (if_neg c1_78) (Eq.trans (if_neg c1_79) (Eq.trans (if_neg c1_80) (Eq.trans (if_neg c1_81) (Eq.trans (if_neg c1_82) (Eq.trans (if_neg c1_83) (Eq.trans (if_neg c1_84) (Eq.trans (if_neg c1_85) (Eq.trans (if_neg c1_86) (Eq.trans (if_neg c1_87) (Eq.trans (if_pos c1_88) (Eq.trans (if_pos c162) (Eq.trans (if_pos c173) rfl)))))))))))))))))))))))))))
                                                      exact ret (congrArg (fun z => mdW a cA z.1) eq9) (congrArg (fun z => z.2) eq9) hw dX8_paging_187
                                                    · refine lv_bipush (v := 99) K.1 K.2.1 dX8_paging_176 (by decide) ?_
                                                      refine lv_goto (tgt := 183) K.1 K.2.1 dX8_paging_178 (by decide) ?_
                                                      refine pM_0_6 K hw kf_X8_88 dX8_paging_183 (fun H locs hw => ?_)
                                                      refine lv_iconst (v := 1) K.1 K.2.1 dX8_paging_186 (by decide) ?_
                                                      have eq9 : f_X8_paging σ0 x1 x2 x4 = ((upS σ0 6 99), 1) := (by exact (Eq.trans (if_neg c1_65) (Eq.trans (if_neg c1_66) (Eq.trans (if_neg c1_67) (Eq.trans (if_neg c1_68) (Eq.trans (if_neg c1_69) (Eq.trans (if_neg c1_70) (Eq.trans (if_neg c1_71) (Eq.trans (if_neg c1_72) (Eq.trans (if_neg c1_73) (Eq.trans (if_neg c1_74) (Eq.trans (if_neg c1_75) (Eq.trans (if_neg c1_76) (Eq.trans (if_neg c1_77) (Eq.trans (if_neg c1_78) (Eq.trans (if_neg c1_79) (Eq.trans (if_neg c1_80) (Eq.trans (if_neg c1_81) (Eq.trans (if_neg c1_82) (Eq.trans (if_neg c1_83) (Eq.trans (if_neg c1_84) (Eq.trans (if_neg c1_85) (Eq.trans (if_neg c1_86) (Eq.trans (if_neg c1_87) (Eq.trans (if_pos c1_88) (Eq.trans (if_pos c162) (Eq.trans (if_neg c173) rfl)))))))))))))))))))))))))))
                                                      exact ret (congrArg (fun z => mdW a cA z.1) eq9) (congrArg (fun z => z.2) eq9) hw dX8_paging_187
                                                  · refine lv_iconst (v := 1) K.1 K.2.1 dX8_paging_165 (by decide) ?_
                                                    refine lv_goto (tgt := 183) K.1 K.2.1 dX8_paging_166 (by decide) ?_
                                                    refine pM_0_6 K hw kf_X8_88 dX8_paging_183 (fun H locs hw => ?_)
                                                    refine lv_iconst (v := 1) K.1 K.2.1 dX8_paging_186 (by decide) ?_
                                                    have eq9 : f_X8_paging σ0 x1 x2 x4 = ((upS σ0 6 1), 1) := (by exact (Eq.trans (if_neg c1_65) (Eq.trans (if_neg c1_66) (Eq.trans (if_neg c1_67) (Eq.trans (if_neg c1_68) (Eq.trans (if_neg c1_69) (Eq.trans (if_neg c1_70) (Eq.trans (if_neg c1_71) (Eq.trans (if_neg c1_72) (Eq.trans (if_neg c1_73) (Eq.trans (if_neg c1_74) (Eq.trans (if_neg c1_75) (Eq.trans (if_neg c1_76) (Eq.trans (if_neg c1_77) (Eq.trans (if_neg c1_78) (Eq.trans (if_neg c1_79) (Eq.trans (if_neg c1_80) (Eq.trans (if_neg c1_81) (Eq.trans (if_neg c1_82) (Eq.trans (if_neg c1_83) (Eq.trans (if_neg c1_84) (Eq.trans (if_neg c1_85) (Eq.trans (if_neg c1_86) (Eq.trans (if_neg c1_87) (Eq.trans (if_pos c1_88) (Eq.trans (if_neg c162) rfl))))))))))))))))))))))))))
                                                    exact ret (congrArg (fun z => mdW a cA z.1) eq9) (congrArg (fun z => z.2) eq9) hw dX8_paging_187
                                                · refine lv_tableOut (tgt := 433) K.1 K.2.1 dX8_paging_1 (by have h0 := lv_neT c1_65 (a := 65) rfl; have h1 := lv_neT c1_66 (a := 66) rfl; have h2 := lv_neT c1_67 (a := 67) rfl; have h3 := lv_neT c1_68 (a := 68) rfl; have h4 := lv_neT c1_69 (a := 69) rfl; have h5 := lv_neT c1_70 (a := 70) rfl; have h6 := lv_neT c1_71 (a := 71) rfl; have h7 := lv_neT c1_72 (a := 72) rfl; have h8 := lv_neT c1_73 (a := 73) rfl; have h9 := lv_neT c1_74 (a := 74) rfl; have h10 := lv_neT c1_75 (a := 75) rfl; have h11 := lv_neT c1_76 (a := 76) rfl; have h12 := lv_neT c1_77 (a := 77) rfl; have h13 := lv_neT c1_78 (a := 78) rfl; have h14 := lv_neT c1_79 (a := 79) rfl; have h15 := lv_neT c1_80 (a := 80) rfl; have h16 := lv_neT c1_81 (a := 81) rfl; have h17 := lv_neT c1_82 (a := 82) rfl; have h18 := lv_neT c1_83 (a := 83) rfl; have h19 := lv_neT c1_84 (a := 84) rfl; have h20 := lv_neT c1_85 (a := 85) rfl; have h21 := lv_neT c1_86 (a := 86) rfl; have h22 := lv_neT c1_87 (a := 87) rfl; have h23 := lv_neT c1_88 (a := 88) rfl; omega) (by decide) ?_
                                                  refine lv_iconst (v := 0) K.1 K.2.1 dX8_paging_433 (by decide) ?_
                                                  have eq9 : f_X8_paging σ0 x1 x2 x4 = (σ0, 0) := (by exact (Eq.trans (if_neg c1_65) (Eq.trans (if_neg c1_66) (Eq.trans (if_neg c1_67) (Eq.trans (if_neg c1_68) (Eq.trans (if_neg c1_69) (Eq.trans (if_neg c1_70) (Eq.trans (if_neg c1_71) (Eq.trans (if_neg c1_72) (Eq.trans (if_neg c1_73) (Eq.trans (if_neg c1_74) (Eq.trans (if_neg c1_75) (Eq.trans (if_neg c1_76) (Eq.trans (if_neg c1_77) (Eq.trans (if_neg c1_78) (Eq.trans (if_neg c1_79) (Eq.trans (if_neg c1_80) (Eq.trans (if_neg c1_81) (Eq.trans (if_neg c1_82) (Eq.trans (if_neg c1_83) (Eq.trans (if_neg c1_84) (Eq.trans (if_neg c1_85) (Eq.trans (if_neg c1_86) (Eq.trans (if_neg c1_87) (Eq.trans (if_neg c1_88) rfl)))))))))))))))))))))))))
                                                  exact ret (congrArg (fun z => mdW a cA z.1) eq9) (congrArg (fun z => z.2) eq9) hw dX8_paging_434
