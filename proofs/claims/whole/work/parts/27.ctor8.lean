abbrev rm_X8_init : Room := { frames := 4, cells := 8, slots := 29095, locals := 85 }
def g_X8_init_t_74 : Nat → PS → Int32 → PS
  | 0, σ, y1 => σ
  | n + 1, σ, y1 => (if 512 ≤ y1 then let s95 : PS := f_X8_reset σ; s95 else let x1_88 : Int32 := y1 + 1; (g_X8_init_t_74 n (upA σ 3 (Int32.toNatClampNeg y1) (-1)) x1_88))
def f_X8_init_t (σ0 : PS) : PS := (g_X8_init_t_74 513 σ0 0)
set_option maxHeartbeats 4000000 in
set_option maxRecDepth 100000 in
theorem t_X8_init {l : Launch} {p : Program} {e : Env} {s : State} {m : MethodId} {args : Array Value} {below : List Frame} {meth : Method} {c : Code} {A : Nat → Prop} {ls : Array Slot} {Q : State → Prop} {D : va_G} {a : Nat → Nat} {cA : Nat → ClassId} {σ0 : PS} {H : Heap} {locs : List Loc} (K : MC p s m args meth c cX8_init RX8 2 D (mdT cA)) (hw : WD D A s.heap (mdW a cA σ0) H locs) (hl : lv_has ls 2 [(0, .ref (a 0))]) (ret : ∀ {w1 : va_W} {H1 : Heap} {locs1 : List Loc} {pc : Nat} {ls1 : Array Slot}, mdW a cA (f_X8_init_t σ0) = w1 → WD D A s.heap w1 H1 locs1 → decode cX8_init pc = .ok (.return_, 1) → W p l e rm_X8_init s m args below meth c H1 locs1 8 29095 Q (F0 m pc ls1 [])) : W p l e rm_X8_init s m args below meth c H locs 8 29095 Q (F0 m 72 ls []) := by
  have J74 : ∀ (n : Nat) (σ : PS) (y1 : Int32) (H : Heap) (locs : List Loc) (ls : Array Slot), WD D A s.heap (mdW a cA σ) H locs → lv_has ls 2 [(0, .ref (a 0)), (1, .int y1)] → (0 ≤ y1.toInt ∧ y1.toInt ≤ 512 ∧ 512 - y1.toInt < (n : Int)) → f_X8_init_t σ0 = g_X8_init_t_74 n σ y1 → W p l e rm_X8_init s m args below meth c H locs 8 29095 Q (F0 m 74 ls []) := by
    intro n
    induction n with
    | zero =>
      intro σ y1 H locs ls hw hl hv e0
      exact absurd hv (by omega)
    | succ n ih =>
      intro σ y1 H locs ls hw hl hv e0
      refine lv_iload_n K.1 K.2.1 dX8_init_74 rfl (lv_at hl 1 rfl) ?_
      refine lv_sipush (v := 512) K.1 K.2.1 dX8_init_75 (by decide) ?_
      refine lv_icmp_ge (tgt := 94) K.1 K.2.1 dX8_init_78 (by decide) (fun c78 => ?_) (fun c78 => ?_)
      · refine lv_aload_n K.1 K.2.1 dX8_init_94 rfl (lv_at hl 0 rfl) ?_
        refine caV K hw (c_X8_reset l D a cA _) hl.1 (tt_V km_X8_36 kI_X8_reset ks_X8_reset ki_X8 kC_X8_reset) 0 (ci := 8) rfl rfl rfl (na := 0) rfl (by decide +kernel) ⟨rfl, rfl⟩ (by decide) ⟨by decide, by decide⟩ rfl (Nat.le_of_ble_eq_true rfl) dX8_init_95 (fun H locs hw => ?_)
        obtain ⟨s95, es95, hw⟩ := nmM hw
        exact ret (congrArg (mdW a cA) (by subst es95; exact (Eq.trans e0 (Eq.trans (if_pos c78) rfl)))) hw dX8_init_98
      · refine lv_aload_n K.1 K.2.1 dX8_init_81 rfl (lv_at hl 0 rfl) ?_
        refine gM_0_9 K hw kf_X8_20 dX8_init_82 ?_
        refine lv_iload_n K.1 K.2.1 dX8_init_85 rfl (lv_at hl 1 rfl) ?_
        refine lv_iconst (v := (-1)) K.1 K.2.1 dX8_init_86 (by decide) ?_
        refine sM_4 K hw (ixUp hv.1 c78 (b := 512) rfl (by decide)) rfl dX8_init_87 (fun H locs hw => ?_)
        obtain ⟨x1_88, ex1_88⟩ : ∃ z9 : Int32, z9 = y1 + 1 := ⟨_, rfl⟩
        refine lv_iinc (v := x1_88) (lv' := [(1, .int x1_88), (0, .ref (a 0))]) K.1 K.2.1 dX8_init_88 hl (k := 1) rfl (by rw [ex1_88]; rfl) (by decide) rfl (fun ls hl => ?_)
        refine lv_goto (tgt := 74) K.1 K.2.1 dX8_init_91 (by decide) ?_
        exact ih _ _ _ _ _ hw (lv_sub hl [1, 0] rfl) (stepUp hv c78 ex1_88 rfl (by decide)) (by subst ex1_88; exact (Eq.trans e0 (Eq.trans (if_neg c78) rfl)))
  refine lv_iconst (v := 0) K.1 K.2.1 dX8_init_72 (by decide) ?_
  refine lv_istore_n (lv' := [(1, .int 0), (0, .ref (a 0))]) K.1 K.2.1 dX8_init_73 rfl hl (by decide) rfl (fun ls hl => ?_)
  exact J74 513 _ _ _ _ _ hw (lv_sub hl [1, 0] rfl) (by decide) (by exact rfl)
def zPS : PS := (fun _ => 0, fun _ _ => 0, fun _ => 0)
set_option maxHeartbeats 4000000 in
set_option maxRecDepth 100000 in
theorem c_X8_init (l : Launch) (D : va_G) (h0 : Nat) : CN l yX8_init cX8_init 2 rm_X8_init D [.ref h0] [(h0, .inr (8, [.int 0, .null, .null, .null, .int 0, .int 0, .int 0, .int 0, .int 0, .null, .int 0, .int 0, .int 0, .int 0, .int 0, .int 0, .int 0, .int 0, .int 0, .int 0, .int 0, .int 0, .int 0, .int 0, .int 0, .int 0, .null, .int 0, .null, .int 0, .null, .int 0, .null]))] (fun u : (Nat → Nat) × (Nat → ClassId) => mdT u.2) (fun u : (Nat → Nat) × (Nat → ClassId) => mdW (va_up u.1 0 h0) u.2 (f_X8_init_t zPS)) 8 29095 := by
  refine en_n (by decide +kernel) rfl (Nat.le_of_ble_eq_true rfl) ?_
  intro p e s m args below meth c A ls Q K hm hN hw hl ret
  have hl : lv_has ls 2 [(0, .ref h0)] := hl
  refine lv_aload_n K.1 K.2.1 dX8_init_0 rfl (lv_at hl 0 rfl) ?_
  refine kObj K km_X8_1 hl.1 dX8_init_1 ⟨by decide, Nat.le_of_ble_eq_true rfl⟩ ?_
  refine lv_aload_n K.1 K.2.1 dX8_init_4 rfl (lv_at hl 0 rfl) ?_
  refine lv_bipush (v := 53) K.1 K.2.1 dX8_init_5 (by decide) ?_
  refine kArr K hw (ty := .int) rfl ka_int (53, .inl (fun _ => 0)) (fun _ => rfl) (by decide) (by decide) (by decide) ⟨by decide, by decide⟩ dX8_init_7 (fun q7_5 k7_5 H K hw => ?_)
  refine kPutF K hm hw 0 1 (ci := 8) (T := TX8) (N := 33) (ty := .array .int) rfl rfl (by decide) iX8 tyX8_ok nmX8 kf_X8_7 rfl rfl rfl rfl rfl (Nat.le_of_ble_eq_true rfl) dX8_init_9 (fun H locs hw => ?_)
  refine lv_aload_n K.1 K.2.1 dX8_init_12 rfl (lv_at hl 0 rfl) ?_
  refine lv_sipush (v := 159) K.1 K.2.1 dX8_init_13 (by decide) ?_
  refine kArr K hw (ty := .int) rfl ka_int (159, .inl (fun _ => 0)) (fun _ => rfl) (by decide) (by decide) (by decide) ⟨by decide, by decide⟩ dX8_init_16 (fun q16_9 k16_9 H K hw => ?_)
  refine kPutF K hm hw 0 2 (ci := 8) (T := TX8) (N := 33) (ty := .array .int) rfl rfl (by decide) iX8 tyX8_ok nmX8 kf_X8_13 rfl rfl rfl rfl rfl (Nat.le_of_ble_eq_true rfl) dX8_init_18 (fun H locs hw => ?_)
  refine lv_aload_n K.1 K.2.1 dX8_init_21 rfl (lv_at hl 0 rfl) ?_
  refine lv_iconst (v := 3) K.1 K.2.1 dX8_init_22 (by decide) ?_
  refine kArr K hw (ty := .boolean) rfl ka_boolean (3, .inl (fun _ => 0)) (fun _ => rfl) (by decide) (by decide) (by decide) ⟨by decide, by decide⟩ dX8_init_23 (fun q23_13 k23_13 H K hw => ?_)
  refine kPutF K hm hw 0 3 (ci := 8) (T := TX8) (N := 33) (ty := .array .boolean) rfl rfl (by decide) iX8 tyX8_ok nmX8 kf_X8_16 rfl rfl rfl rfl rfl (Nat.le_of_ble_eq_true rfl) dX8_init_25 (fun H locs hw => ?_)
  refine lv_aload_n K.1 K.2.1 dX8_init_28 rfl (lv_at hl 0 rfl) ?_
  refine lv_sipush (v := 512) K.1 K.2.1 dX8_init_29 (by decide) ?_
  refine kArr K hw (ty := .int) rfl ka_int (512, .inl (fun _ => 0)) (fun _ => rfl) (by decide) (by decide) (by decide) ⟨by decide, by decide⟩ dX8_init_32 (fun q32_17 k32_17 H K hw => ?_)
  refine kPutF K hm hw 0 9 (ci := 8) (T := TX8) (N := 33) (ty := .array .int) rfl rfl (by decide) iX8 tyX8_ok nmX8 kf_X8_20 rfl rfl rfl rfl rfl (Nat.le_of_ble_eq_true rfl) dX8_init_34 (fun H locs hw => ?_)
  refine lv_aload_n K.1 K.2.1 dX8_init_37 rfl (lv_at hl 0 rfl) ?_
  refine lv_sipush (v := 24000) K.1 K.2.1 dX8_init_38 (by decide) ?_
  refine kArr K hw (ty := .int) rfl ka_int (24000, .inl (fun _ => 0)) (fun _ => rfl) (by decide) (by decide) (by decide) ⟨by decide, by decide⟩ dX8_init_41 (fun q41_21 k41_21 H K hw => ?_)
  refine kPutF K hm hw 0 26 (ci := 8) (T := TX8) (N := 33) (ty := .array .int) rfl rfl (by decide) iX8 tyX8_ok nmX8 kf_X8_23 rfl rfl rfl rfl rfl (Nat.le_of_ble_eq_true rfl) dX8_init_43 (fun H locs hw => ?_)
  refine lv_aload_n K.1 K.2.1 dX8_init_46 rfl (lv_at hl 0 rfl) ?_
  refine lv_sipush (v := 160) K.1 K.2.1 dX8_init_47 (by decide) ?_
  refine kArr K hw (ty := .int) rfl ka_int (160, .inl (fun _ => 0)) (fun _ => rfl) (by decide) (by decide) (by decide) ⟨by decide, by decide⟩ dX8_init_50 (fun q50_25 k50_25 H K hw => ?_)
  refine kPutF K hm hw 0 28 (ci := 8) (T := TX8) (N := 33) (ty := .array .int) rfl rfl (by decide) iX8 tyX8_ok nmX8 kf_X8_26 rfl rfl rfl rfl rfl (Nat.le_of_ble_eq_true rfl) dX8_init_52 (fun H locs hw => ?_)
  refine lv_aload_n K.1 K.2.1 dX8_init_55 rfl (lv_at hl 0 rfl) ?_
  refine lv_bipush (v := 112) K.1 K.2.1 dX8_init_56 (by decide) ?_
  refine kArr K hw (ty := .int) rfl ka_int (112, .inl (fun _ => 0)) (fun _ => rfl) (by decide) (by decide) (by decide) ⟨by decide, by decide⟩ dX8_init_58 (fun q58_29 k58_29 H K hw => ?_)
  refine kPutF K hm hw 0 30 (ci := 8) (T := TX8) (N := 33) (ty := .array .int) rfl rfl (by decide) iX8 tyX8_ok nmX8 kf_X8_29 rfl rfl rfl rfl rfl (Nat.le_of_ble_eq_true rfl) dX8_init_60 (fun H locs hw => ?_)
  refine lv_aload_n K.1 K.2.1 dX8_init_63 rfl (lv_at hl 0 rfl) ?_
  refine lv_sipush (v := 4096) K.1 K.2.1 dX8_init_64 (by decide) ?_
  refine kArr K hw (ty := .byte) rfl ka_byte (4096, .inl (fun _ => 0)) (fun _ => rfl) (by decide) (by decide) (by decide) ⟨by decide, by decide⟩ dX8_init_67 (fun q67_33 k67_33 H K hw => ?_)
  refine kPutF K hm hw 0 32 (ci := 8) (T := TX8) (N := 33) (ty := .array .byte) rfl rfl (by decide) iX8 tyX8_ok nmX8 kf_X8_32 rfl rfl rfl rfl rfl (Nat.le_of_ble_eq_true rfl) dX8_init_69 (fun H locs hw => ?_)
  have hw : WD D A s.heap (mdW (va_up (fun k => [h0, q7_5, q16_9, q23_13, q32_17, q41_21, q50_25, q58_29, q67_33].getD k 0) 0 h0) (fun k => [k7_5, k16_9, k23_13, k32_17, k41_21, k50_25, k58_29, k67_33].getD k default) zPS) H locs := hw
  have K : MC p s m args meth c cX8_init RX8 2 D (mdT (fun k => [k7_5, k16_9, k23_13, k32_17, k41_21, k50_25, k58_29, k67_33].getD k default)) := K
  exact t_X8_init K hw hl (fun e9 hw hd => ret ((fun k => [h0, q7_5, q16_9, q23_13, q32_17, q41_21, q50_25, q58_29, q67_33].getD k 0), (fun k => [k7_5, k16_9, k23_13, k32_17, k41_21, k50_25, k58_29, k67_33].getD k default)) (e9 ▸ hw) K.2.2.2.2.1 hd)
