/-! the reference's last loops -/
/-- at each byte of a feed: data that go to a command find one -/
def F3 : Nat → PS → Int64 → Int32 → Prop
  | 0, _, _, _ => True
  | n + 1, σ, y1, y4 => ¬ y4 < 0 → M3 σ ∧ F3 n (f_X8_comes σ (Int64.toInt32 ((y1 >>> (Int32.toInt64 (8 * y4) &&& 63)) &&& 255))) y1 (y4 + (-1))
theorem vDat {k i : Int32} {n : Nat} (h1 : ¬ k < 0) (h2 : ¬ 512 ≤ k) (hv : 0 ≤ i.toInt ∧ i.toInt ≤ 8 ∧ 8 - i.toInt < ((n + 1 : Nat) : Int)) (hc : ¬ 8 ≤ i) : vp_in (8 * k + i) 4096 := by
  have a := rg2 h1 h2 (b := 511) rfl
  have b := ltI hc (b := 8) rfl
  exact linI 8 511 rfl (by decide) a (by decide) (by omega) (by decide)
theorem ne0G {v : Int32} (h : 0 ≤ v.toInt) (hc : ¬ v = 0) : 1 ≤ v.toInt := by
  have : v.toInt ≠ 0 := fun q => hc (Int32.toInt_inj.mp (by rw [q]; rfl))
  omega
theorem dec16 {v : Int32} (h : 0 ≤ v.toInt ∧ v.toInt ≤ 16) (h1 : 1 ≤ v.toInt) : 0 ≤ (v - 1).toInt ∧ (v - 1).toInt ≤ 15 := by
  have e1 : (1 : Int32).toInt = 1 := rfl
  rw [i32sub (by omega) (by omega)]
  omega
def TkI (n : Nat) (s a k : Int32) : Prop := 0 ≤ a.toInt ∧ a.toInt ≤ k.toInt ∧ s.toInt - k.toInt < (n : Int) ∧ 1 ≤ n
theorem tkS {n : Nat} {s a k z : Int32} (hs : s.toInt ≤ 4096) (hv : TkI (n + 1) s a k) (hc : ¬ s ≤ k) (he : z = k + 1) : TkI n s a z := by
  obtain ⟨h1, h2, h3, h4⟩ := hv
  rw [Int32.le_iff_toInt_le] at hc
  have e1 : (1 : Int32).toInt = 1 := rfl
  have ez : z.toInt = k.toInt + 1 := by rw [he, i32add (by omega) (by omega), e1]
  exact ⟨h1, by omega, by omega, by omega⟩
theorem tkA {n : Nat} {s a k : Int32} (hs : s.toInt ≤ 4096) (hv : TkI (n + 1) s a k) (hc : ¬ s ≤ k) : vp_in k 4096 := by
  obtain ⟨h1, h2, h3, h4⟩ := hv
  rw [Int32.le_iff_toInt_le] at hc
  exact vp_in_iff.mpr (by omega)
theorem tkB {n : Nat} {s a k : Int32} (hs : s.toInt ≤ 4096) (hv : TkI (n + 1) s a k) (hc : ¬ s ≤ k) : vp_in (k - a) 4096 := by
  obtain ⟨h1, h2, h3, h4⟩ := hv
  rw [Int32.le_iff_toInt_le] at hc
  refine vp_in_iff.mpr ?_
  rw [i32sub (by omega) (by omega)]
  omega
def ToI (n : Nat) (o k : Int32) : Prop := 0 ≤ k.toInt ∧ 7 * o.toInt - k.toInt < (n : Int) ∧ 1 ≤ n
theorem toS {n : Nat} {o k z : Int32} (ho : 0 ≤ o.toInt ∧ o.toInt ≤ 15) (hv : ToI (n + 1) o k) (hc : ¬ 7 * o ≤ k) (he : z = k + 1) : ToI n o z := by
  obtain ⟨h1, h2, h3⟩ := hv
  have e := mulc (c := 7) (x := o) 7 rfl (by omega) (by omega)
  rw [Int32.le_iff_toInt_le, e] at hc
  have e1 : (1 : Int32).toInt = 1 := rfl
  have ez : z.toInt = k.toInt + 1 := by rw [he, i32add (by omega) (by omega), e1]
  exact ⟨by omega, by omega, by omega⟩
theorem toA {n : Nat} {o k : Int32} (ho : 0 ≤ o.toInt ∧ o.toInt ≤ 15) (hv : ToI (n + 1) o k) (hc : ¬ 7 * o ≤ k) : vp_in k 112 ∧ vp_in (k + 7) 112 := by
  obtain ⟨h1, h2, h3⟩ := hv
  have e := mulc (c := 7) (x := o) 7 rfl (by omega) (by omega)
  rw [Int32.le_iff_toInt_le, e] at hc
  have e7 : (7 : Int32).toInt = 7 := rfl
  refine ⟨vp_in_iff.mpr (by omega), vp_in_iff.mpr ?_⟩
  rw [i32add (by omega) (by omega)]
  omega
def g_X8_feed_23 : Nat → PS → Int64 → Int32 → PS × Int32
  | 0, σ, y1, y4 => (σ, 0)
  | n + 1, σ, y1, y4 => (if y4 < 0 then (σ, 1) else let s41 : PS := f_X8_comes σ (Int64.toInt32 ((y1 >>> (Int32.toInt64 (8 * y4) &&& 63)) &&& 255)); let x4_44 : Int32 := y4 + (-1); (g_X8_feed_23 n s41 y1 x4_44))
def f_X8_feed (σ0 : PS) (x1 : Int64) (x3 : Int32) : PS × Int32 := (if x3 < 1 then ((upS σ0 0 0), 0) else (if x3 ≤ 8 then let x4_21 : Int32 := (x3 - 1); (g_X8_feed_23 9 (upS σ0 0 0) x1 x4_21) else ((upS σ0 0 0), 0)))
theorem bm_g_X8_feed_23 {n : Nat} {σ : PS} {y1 : Int64} {y4 : Int32} (hI : Bm σ) : Bm (g_X8_feed_23 n σ y1 y4).1 := by
  induction n generalizing σ y1 y4 with
  | zero => exact hI
  | succ n ih => exact (bxI2 (fun c25 => hI) (fun c25 => (ih (bm_X8_comes hI))))
theorem bm_X8_feed {σ0 : PS} {x1 : Int64} {x3 : Int32} (hI : Bm σ0) : Bm (f_X8_feed σ0 x1 x3).1 := (bxI2 (fun c7 => (bmS_0 hI)) (fun c7 => (bxI2 (fun c13 => (bm_g_X8_feed_23 (bmS_0 hI))) (fun c13 => (bmS_0 hI)))))
abbrev rm_X8_feed : Room := { frames := 9, cells := 0, slots := 0, locals := 204 }
theorem nz_g_X8_feed_23 {n : Nat} {σ : PS} {y1 : Int64} {y4 : Int32} : NZ (g_X8_feed_23 n σ y1 y4).2 := by
  induction n generalizing σ y1 y4 with
  | zero => exact nz0
  | succ n ih => exact (nzI2 nz1 ih)
theorem nz_X8_feed {σ0 : PS} {x1 : Int64} {x3 : Int32} : NZ (f_X8_feed σ0 x1 x3).2 := (nzI2 nz0 (nzI2 nz_g_X8_feed_23 nz0))
set_option maxHeartbeats 4000000 in
set_option maxRecDepth 100000 in
theorem c_X8_feed (l : Launch) (D : va_G) (a : Nat → Nat) (cA : Nat → ClassId) (σ0 : PS) (x1 : Int64) (x3 : Int32) (hI : Bm σ0) (hp : 0 ≤ (σ0.1 27).toInt) (hP : (σ0.1 27).toInt ≤ 2147483600) (h3 : ¬ x3 < 1 → x3 ≤ 8 → F3 9 (upS σ0 0 0) x1 (x3 - 1)) : CI l yX8_feed cX8_feed 5 .boolean rm_X8_feed D (mdT cA) [.ref (a 0), .long x1, .int x3] (mdW a cA σ0) (mdW a cA (f_X8_feed σ0 x1 x3).1) (f_X8_feed σ0 x1 x3).2 := by
  refine en_i (by decide +kernel) (Nat.le_of_ble_eq_true rfl) nz_X8_feed ?_
  intro p e s m args below meth c A ls Q K hw hl ret
  have hl : lv_has ls 5 [(0, .ref (a 0)), (1, .long x1), (3, .int x3)] := hl
  have J23 : ∀ (n : Nat) (σ : PS) (y1 : Int64) (y4 : Int32) (H : Heap) (locs : List Loc) (ls : Array Slot), WD D A s.heap (mdW a cA σ) H locs → lv_has ls 5 [(0, .ref (a 0)), (1, .long y1), (4, .int y4)] → Bm σ → 0 ≤ (σ.1 27).toInt → (((-1 ≤ y4.toInt ∧ y4.toInt ≤ 7 ∧ y4.toInt + 1 < (n : Int)) ∧ (σ.1 27).toInt + y4.toInt ≤ 2147483640) ∧ F3 n σ y1 y4) → f_X8_feed σ0 x1 x3 = g_X8_feed_23 n σ y1 y4 → W p l e rm_X8_feed s m args below meth c H locs 0 0 Q (F0 m 23 ls []) := by
    intro n
    induction n with
    | zero =>
      intro σ y1 y4 H locs ls hw hl hI hp hv e0
      exact absurd hv (fun h9 => by have h8 := h9.1; omega)
    | succ n ih =>
      intro σ y1 y4 H locs ls hw hl hI hp hv e0
      refine lv_iload K.1 K.2.1 dX8_feed_23 (lv_at hl 2 rfl) ?_
      refine lv_if_lt (tgt := 50) K.1 K.2.1 dX8_feed_25 (by decide) (fun c25 => ?_) (fun c25 => ?_)
      · refine lv_iconst (v := 1) K.1 K.2.1 dX8_feed_50 (by decide) ?_
        have eq9 : f_X8_feed σ0 x1 x3 = (σ, 1) := (by exact (Eq.trans e0 (Eq.trans (if_pos c25) rfl)))
        exact ret (congrArg (fun z => mdW a cA z.1) eq9) (congrArg (fun z => z.2) eq9) hw dX8_feed_51
      · refine lv_aload_n K.1 K.2.1 dX8_feed_28 rfl (lv_at hl 0 rfl) ?_
        refine lv_lload_n K.1 K.2.1 dX8_feed_29 rfl (lv_at hl 1 rfl) ?_
        refine lv_bipush (v := 8) K.1 K.2.1 dX8_feed_30 (by decide) ?_
        refine lv_iload K.1 K.2.1 dX8_feed_32 (lv_at hl 2 rfl) ?_
        refine lv_imul K.1 K.2.1 dX8_feed_34 ?_
        refine lv_lshr K.1 K.2.1 dX8_feed_35 rfl ?_
        refine lv_ldc2 K.1 K.2.1 K.2.2.2.1 (K.2.2.1 _ kc_X8_206) dX8_feed_36 ?_
        refine lv_land K.1 K.2.1 dX8_feed_39 ?_
        refine lv_l2i K.1 K.2.1 dX8_feed_40 rfl ?_
        refine caV K hw (c_X8_comes l D a cA _ _ hI hp (and255 _) (hv.2 c25).1) hl.1 (tt_V km_X8_208 kI_X8_comes ks_X8_comes ki_X8 kC_X8_comes) 0 (ci := 8) rfl rfl rfl (na := 1) rfl (by decide +kernel) ⟨rfl, rfl⟩ (by decide) ⟨Nat.zero_le _, Nat.zero_le _⟩ rfl (Nat.le_of_ble_eq_true rfl) dX8_feed_41 (fun H locs hw => ?_)
        obtain ⟨s41, es41, hw⟩ := nmM hw
        have hI41 : Bm s41 := by rw [es41]; exact bm_X8_comes hI
        have hq41 : Pm ((σ.1 27).toInt + 1) s41 := by rw [es41]; exact pm_X8_comes ⟨hp, Int.le_refl _⟩ (by omega)
        have hp41 := hq41.1
        have hr41 := hq41.2
        obtain ⟨x4_44, ex4_44⟩ : ∃ z9 : Int32, z9 = y4 + (-1) := ⟨_, rfl⟩
        refine lv_iinc (v := x4_44) (lv' := [(4, .int x4_44), (0, .ref (a 0)), (1, .long y1)]) K.1 K.2.1 dX8_feed_44 hl (k := 2) rfl (by rw [ex4_44]; rfl) (by decide) rfl (fun ls hl => ?_)
        refine lv_goto (tgt := 23) K.1 K.2.1 dX8_feed_47 (by decide) ?_
        exact ih _ _ _ _ _ _ hw (lv_sub hl [1, 2, 0] rfl) hI41 hp41 ⟨⟨stepDn hv.1.1 c25 ex4_44, by have h9 := i32add (a := y4) (b := -1) (by have : (-1 : Int32).toInt = -1 := rfl; omega) (by have : (-1 : Int32).toInt = -1 := rfl; omega); have h8 : (-1 : Int32).toInt = -1 := rfl; rw [ex4_44]; omega⟩, by subst es41 ex4_44; exact (hv.2 c25).2⟩ (by subst ex4_44 es41; exact (Eq.trans e0 (Eq.trans (if_neg c25) rfl)))
  refine lv_aload_n K.1 K.2.1 dX8_feed_0 rfl (lv_at hl 0 rfl) ?_
  refine lv_iconst (v := 0) K.1 K.2.1 dX8_feed_1 (by decide) ?_
  refine pM_0_0 K hw kf_X8_39 dX8_feed_2 (fun H locs hw => ?_)
  refine lv_iload_n K.1 K.2.1 dX8_feed_5 rfl (lv_at hl 2 rfl) ?_
  refine lv_iconst (v := 1) K.1 K.2.1 dX8_feed_6 (by decide) ?_
  refine lv_icmp_lt (tgt := 16) K.1 K.2.1 dX8_feed_7 (by decide) (fun c7 => ?_) (fun c7 => ?_)
  · refine lv_iconst (v := 0) K.1 K.2.1 dX8_feed_16 (by decide) ?_
    have eq9 : f_X8_feed σ0 x1 x3 = ((upS σ0 0 0), 0) := (by exact (Eq.trans (if_pos c7) rfl))
    exact ret (congrArg (fun z => mdW a cA z.1) eq9) (congrArg (fun z => z.2) eq9) hw dX8_feed_17
  · refine lv_iload_n K.1 K.2.1 dX8_feed_10 rfl (lv_at hl 2 rfl) ?_
    refine lv_bipush (v := 8) K.1 K.2.1 dX8_feed_11 (by decide) ?_
    refine lv_icmp_le (tgt := 18) K.1 K.2.1 dX8_feed_13 (by decide) (fun c13 => ?_) (fun c13 => ?_)
    · refine lv_iload_n K.1 K.2.1 dX8_feed_18 rfl (lv_at hl 2 rfl) ?_
      refine lv_iconst (v := 1) K.1 K.2.1 dX8_feed_19 (by decide) ?_
      refine lv_isub K.1 K.2.1 dX8_feed_20 ?_
      refine lv_topi (fun x4_21 ex4_21 => ?_)
      refine lv_istore (lv' := [(4, .int x4_21), (0, .ref (a 0)), (1, .long x1), (3, .int x3)]) K.1 K.2.1 dX8_feed_21 hl (by decide) rfl (fun ls hl => ?_)
      exact J23 9 _ _ _ _ _ _ hw (lv_sub hl [1, 2, 0] rfl) (bmS_0 hI) hp (by rw [ex4_21]; have h9 := fdEntry c7 c13; refine ⟨⟨h9, ?_⟩, h3 c7 c13⟩; show (σ0.1 27).toInt + _ ≤ _; omega) (by subst ex4_21; exact (Eq.trans (if_neg c7) (Eq.trans (if_pos c13) rfl)))
    · refine lv_iconst (v := 0) K.1 K.2.1 dX8_feed_16 (by decide) ?_
      have eq9 : f_X8_feed σ0 x1 x3 = ((upS σ0 0 0), 0) := (by exact (Eq.trans (if_neg c7) (Eq.trans (if_neg c13) rfl)))
      exact ret (congrArg (fun z => mdW a cA z.1) eq9) (congrArg (fun z => z.2) eq9) hw dX8_feed_17
def g_X8_data_21 : Nat → PS → Int32 → Int64 → Int32 → PS × Int64
  | 0, σ, y1, y2, y4 => (σ, 0)
  | n + 1, σ, y1, y2, y4 => (if 8 ≤ y4 then (σ, y2) else (if (σ.1 0) = 0 then (if y1 < 0 then let x2_109 : Int64 := ((y2 <<< (Int32.toInt64 8 &&& 63)) ||| (Int32.toInt64 0)); let x4_110 : Int32 := y4 + 1; (g_X8_data_21 n σ y1 x2_109 x4_110) else (if 512 ≤ y1 then let x2_109 : Int64 := ((y2 <<< (Int32.toInt64 8 &&& 63)) ||| (Int32.toInt64 0)); let x4_110 : Int32 := y4 + 1; (g_X8_data_21 n σ y1 x2_109 x4_110) else (if (σ.2.1 6 5) ≤ ((8 * y1) + y4) then let x2_109 : Int64 := ((y2 <<< (Int32.toInt64 8 &&& 63)) ||| (Int32.toInt64 0)); let x4_110 : Int32 := y4 + 1; (g_X8_data_21 n σ y1 x2_109 x4_110) else let x2_109 : Int64 := ((y2 <<< (Int32.toInt64 8 &&& 63)) ||| (Int32.toInt64 ((σ.2.1 7 (Int32.toNatClampNeg ((8 * y1) + y4))) &&& 255))); let x4_110 : Int32 := y4 + 1; (g_X8_data_21 n σ y1 x2_109 x4_110)))) else (σ, y2)))
def f_X8_data (σ0 : PS) (x1 : Int32) : PS × Int64 := (if (σ0.1 29) = 0 then (g_X8_data_21 9 (upS σ0 0 1) x1 0 0) else (g_X8_data_21 9 (upS σ0 0 0) x1 0 0))
abbrev rm_X8_data : Room := { frames := 0, cells := 0, slots := 0, locals := 0 }
set_option maxHeartbeats 4000000 in
set_option maxRecDepth 100000 in
theorem c_X8_data (l : Launch) (D : va_G) (a : Nat → Nat) (cA : Nat → ClassId) (σ0 : PS) (x1 : Int32) : CL l yX8_data cX8_data 6 rm_X8_data D (mdT cA) [.ref (a 0), .int x1] (mdW a cA σ0) (mdW a cA (f_X8_data σ0 x1).1) (f_X8_data σ0 x1).2 := by
  refine en_l (by decide +kernel) (Nat.le_of_ble_eq_true rfl) ?_
  intro p e s m args below meth c A ls Q K hw hl ret
  have hl : lv_has ls 6 [(0, .ref (a 0)), (1, .int x1)] := hl
  have J21 : ∀ (n : Nat) (σ : PS) (y1 : Int32) (y2 : Int64) (y4 : Int32) (H : Heap) (locs : List Loc) (ls : Array Slot), WD D A s.heap (mdW a cA σ) H locs → lv_has ls 6 [(0, .ref (a 0)), (1, .int y1), (2, .long y2), (4, .int y4)] → (0 ≤ y4.toInt ∧ y4.toInt ≤ 8 ∧ 8 - y4.toInt < (n : Int)) → f_X8_data σ0 x1 = g_X8_data_21 n σ y1 y2 y4 → W p l e rm_X8_data s m args below meth c H locs 0 0 Q (F0 m 21 ls []) := by
    intro n
    induction n with
    | zero =>
      intro σ y1 y2 y4 H locs ls hw hl hv e0
      exact absurd hv (by omega)
    | succ n ih =>
      intro σ y1 y2 y4 H locs ls hw hl hv e0
      refine lv_iload K.1 K.2.1 dX8_data_21 (lv_at hl 3 rfl) ?_
      refine lv_bipush (v := 8) K.1 K.2.1 dX8_data_23 (by decide) ?_
      refine lv_icmp_ge (tgt := 116) K.1 K.2.1 dX8_data_25 (by decide) (fun c25 => ?_) (fun c25 => ?_)
      · refine lv_lload_n K.1 K.2.1 dX8_data_116 rfl (lv_at hl 2 rfl) ?_
        have eq9 : f_X8_data σ0 x1 = (σ, y2) := (by exact (Eq.trans e0 (Eq.trans (if_pos c25) rfl)))
        exact ret (congrArg (fun z => mdW a cA z.1) eq9) (congrArg (fun z => z.2) eq9) hw dX8_data_117
      · refine lv_aload_n K.1 K.2.1 dX8_data_28 rfl (lv_at hl 0 rfl) ?_
        refine gM_0_0 K hw kf_X8_39 dX8_data_29 ?_
        refine lv_if_ne (tgt := 116) K.1 K.2.1 dX8_data_32 (by decide) (fun c32 => ?_) (fun c32 => ?_)
        · refine lv_lload_n K.1 K.2.1 dX8_data_116 rfl (lv_at hl 2 rfl) ?_
          have eq9 : f_X8_data σ0 x1 = (σ, y2) := (by exact (Eq.trans e0 (Eq.trans (if_neg c25) (Eq.trans (if_neg c32) rfl))))
          exact ret (congrArg (fun z => mdW a cA z.1) eq9) (congrArg (fun z => z.2) eq9) hw dX8_data_117
        · refine lv_iload_n K.1 K.2.1 dX8_data_35 rfl (lv_at hl 1 rfl) ?_
          refine lv_if_lt (tgt := 66) K.1 K.2.1 dX8_data_36 (by decide) (fun c36 => ?_) (fun c36 => ?_)
          · refine lv_iconst (v := 0) K.1 K.2.1 dX8_data_66 (by decide) ?_
            refine lv_istore (lv' := [(5, .int 0), (0, .ref (a 0)), (1, .int y1), (2, .long y2), (4, .int y4)]) K.1 K.2.1 dX8_data_67 hl (by decide) rfl (fun ls hl => ?_)
            refine lv_lload_n K.1 K.2.1 dX8_data_69 rfl (lv_at hl 3 rfl) ?_
            refine lv_bipush (v := 8) K.1 K.2.1 dX8_data_70 (by decide) ?_
            refine lv_lshl K.1 K.2.1 dX8_data_72 rfl ?_
            refine lv_iload K.1 K.2.1 dX8_data_73 (lv_at hl 0 rfl) ?_
            refine lv_if_eq (tgt := 106) K.1 K.2.1 dX8_data_75 (by decide) (fun _ => ?_) (fun c75 => absurd c75 (by show ¬ ¬ ((0 : Int32) = (0 : Int32)); decide))
            refine lv_iconst (v := 0) K.1 K.2.1 dX8_data_106 (by decide) ?_
            refine lv_i2l K.1 K.2.1 dX8_data_107 rfl ?_
            refine lv_lor K.1 K.2.1 dX8_data_108 ?_
            refine lv_topl (fun x2_109 ex2_109 => ?_)
            refine lv_lstore_n (lv' := [(2, .long x2_109), (5, .int 0), (0, .ref (a 0)), (1, .int y1), (4, .int y4)]) K.1 K.2.1 dX8_data_109 rfl hl (by decide) rfl (fun ls hl => ?_)
            obtain ⟨x4_110, ex4_110⟩ : ∃ z9 : Int32, z9 = y4 + 1 := ⟨_, rfl⟩
            refine lv_iinc (v := x4_110) (lv' := [(4, .int x4_110), (2, .long x2_109), (5, .int 0), (0, .ref (a 0)), (1, .int y1)]) K.1 K.2.1 dX8_data_110 hl (k := 4) rfl (by rw [ex4_110]; rfl) (by decide) rfl (fun ls hl => ?_)
            refine lv_goto (tgt := 21) K.1 K.2.1 dX8_data_113 (by decide) ?_
            exact ih _ _ _ _ _ _ _ hw (lv_sub hl [3, 4, 1, 0] rfl) (stepUp hv c25 ex4_110 rfl (by decide)) (by subst ex4_110 ex2_109; exact (Eq.trans e0 (Eq.trans (if_neg c25) (Eq.trans (if_pos c32) (Eq.trans (if_pos c36) rfl)))))
          · refine lv_iload_n K.1 K.2.1 dX8_data_39 rfl (lv_at hl 1 rfl) ?_
            refine lv_sipush (v := 512) K.1 K.2.1 dX8_data_40 (by decide) ?_
            refine lv_icmp_ge (tgt := 66) K.1 K.2.1 dX8_data_43 (by decide) (fun c43 => ?_) (fun c43 => ?_)
            · refine lv_iconst (v := 0) K.1 K.2.1 dX8_data_66 (by decide) ?_
              refine lv_istore (lv' := [(5, .int 0), (0, .ref (a 0)), (1, .int y1), (2, .long y2), (4, .int y4)]) K.1 K.2.1 dX8_data_67 hl (by decide) rfl (fun ls hl => ?_)
              refine lv_lload_n K.1 K.2.1 dX8_data_69 rfl (lv_at hl 3 rfl) ?_
              refine lv_bipush (v := 8) K.1 K.2.1 dX8_data_70 (by decide) ?_
              refine lv_lshl K.1 K.2.1 dX8_data_72 rfl ?_
              refine lv_iload K.1 K.2.1 dX8_data_73 (lv_at hl 0 rfl) ?_
              refine lv_if_eq (tgt := 106) K.1 K.2.1 dX8_data_75 (by decide) (fun _ => ?_) (fun c75 => absurd c75 (by show ¬ ¬ ((0 : Int32) = (0 : Int32)); decide))
              refine lv_iconst (v := 0) K.1 K.2.1 dX8_data_106 (by decide) ?_
              refine lv_i2l K.1 K.2.1 dX8_data_107 rfl ?_
              refine lv_lor K.1 K.2.1 dX8_data_108 ?_
              refine lv_topl (fun x2_109 ex2_109 => ?_)
              refine lv_lstore_n (lv' := [(2, .long x2_109), (5, .int 0), (0, .ref (a 0)), (1, .int y1), (4, .int y4)]) K.1 K.2.1 dX8_data_109 rfl hl (by decide) rfl (fun ls hl => ?_)
              obtain ⟨x4_110, ex4_110⟩ : ∃ z9 : Int32, z9 = y4 + 1 := ⟨_, rfl⟩
              refine lv_iinc (v := x4_110) (lv' := [(4, .int x4_110), (2, .long x2_109), (5, .int 0), (0, .ref (a 0)), (1, .int y1)]) K.1 K.2.1 dX8_data_110 hl (k := 4) rfl (by rw [ex4_110]; rfl) (by decide) rfl (fun ls hl => ?_)
              refine lv_goto (tgt := 21) K.1 K.2.1 dX8_data_113 (by decide) ?_
              exact ih _ _ _ _ _ _ _ hw (lv_sub hl [3, 4, 1, 0] rfl) (stepUp hv c25 ex4_110 rfl (by decide)) (by subst ex4_110 ex2_109; exact (Eq.trans e0 (Eq.trans (if_neg c25) (Eq.trans (if_pos c32) (Eq.trans (if_neg c36) (Eq.trans (if_pos c43) rfl))))))
            · refine lv_bipush (v := 8) K.1 K.2.1 dX8_data_46 (by decide) ?_
              refine lv_iload_n K.1 K.2.1 dX8_data_48 rfl (lv_at hl 1 rfl) ?_
              refine lv_imul K.1 K.2.1 dX8_data_49 ?_
              refine lv_iload K.1 K.2.1 dX8_data_50 (lv_at hl 3 rfl) ?_
              refine lv_iadd K.1 K.2.1 dX8_data_52 ?_
              refine lv_aload_n K.1 K.2.1 dX8_data_53 rfl (lv_at hl 0 rfl) ?_
              refine gM_0_30 K hw kf_X8_29 dX8_data_54 ?_
              refine lv_iconst (v := 5) K.1 K.2.1 dX8_data_57 (by decide) ?_
              refine lM_7 K hw (vi_5 (by decide)) cl_5 dX8_data_58 ?_
              refine lv_icmp_ge (tgt := 66) K.1 K.2.1 dX8_data_59 (by decide) (fun c59 => ?_) (fun c59 => ?_)
              · refine lv_iconst (v := 0) K.1 K.2.1 dX8_data_66 (by decide) ?_
                refine lv_istore (lv' := [(5, .int 0), (0, .ref (a 0)), (1, .int y1), (2, .long y2), (4, .int y4)]) K.1 K.2.1 dX8_data_67 hl (by decide) rfl (fun ls hl => ?_)
                refine lv_lload_n K.1 K.2.1 dX8_data_69 rfl (lv_at hl 3 rfl) ?_
                refine lv_bipush (v := 8) K.1 K.2.1 dX8_data_70 (by decide) ?_
                refine lv_lshl K.1 K.2.1 dX8_data_72 rfl ?_
                refine lv_iload K.1 K.2.1 dX8_data_73 (lv_at hl 0 rfl) ?_
                refine lv_if_eq (tgt := 106) K.1 K.2.1 dX8_data_75 (by decide) (fun _ => ?_) (fun c75 => absurd c75 (by show ¬ ¬ ((0 : Int32) = (0 : Int32)); decide))
                refine lv_iconst (v := 0) K.1 K.2.1 dX8_data_106 (by decide) ?_
                refine lv_i2l K.1 K.2.1 dX8_data_107 rfl ?_
                refine lv_lor K.1 K.2.1 dX8_data_108 ?_
                refine lv_topl (fun x2_109 ex2_109 => ?_)
                refine lv_lstore_n (lv' := [(2, .long x2_109), (5, .int 0), (0, .ref (a 0)), (1, .int y1), (4, .int y4)]) K.1 K.2.1 dX8_data_109 rfl hl (by decide) rfl (fun ls hl => ?_)
                obtain ⟨x4_110, ex4_110⟩ : ∃ z9 : Int32, z9 = y4 + 1 := ⟨_, rfl⟩
                refine lv_iinc (v := x4_110) (lv' := [(4, .int x4_110), (2, .long x2_109), (5, .int 0), (0, .ref (a 0)), (1, .int y1)]) K.1 K.2.1 dX8_data_110 hl (k := 4) rfl (by rw [ex4_110]; rfl) (by decide) rfl (fun ls hl => ?_)
                refine lv_goto (tgt := 21) K.1 K.2.1 dX8_data_113 (by decide) ?_
                exact ih _ _ _ _ _ _ _ hw (lv_sub hl [3, 4, 1, 0] rfl) (stepUp hv c25 ex4_110 rfl (by decide)) (by subst ex4_110 ex2_109; exact (Eq.trans e0 (Eq.trans (if_neg c25) (Eq.trans (if_pos c32) (Eq.trans (if_neg c36) (Eq.trans (if_neg c43) (Eq.trans (if_pos c59) rfl)))))))
              · refine lv_iconst (v := 1) K.1 K.2.1 dX8_data_62 (by decide) ?_
                refine lv_goto (tgt := 67) K.1 K.2.1 dX8_data_63 (by decide) ?_
                refine lv_istore (lv' := [(5, .int 1), (0, .ref (a 0)), (1, .int y1), (2, .long y2), (4, .int y4)]) K.1 K.2.1 dX8_data_67 hl (by decide) rfl (fun ls hl => ?_)
                refine lv_lload_n K.1 K.2.1 dX8_data_69 rfl (lv_at hl 3 rfl) ?_
                refine lv_bipush (v := 8) K.1 K.2.1 dX8_data_70 (by decide) ?_
                refine lv_lshl K.1 K.2.1 dX8_data_72 rfl ?_
                refine lv_iload K.1 K.2.1 dX8_data_73 (lv_at hl 0 rfl) ?_
                refine lv_if_eq (tgt := 106) K.1 K.2.1 dX8_data_75 (by decide) (fun c75 => absurd c75 (by show ¬ ((1 : Int32) = (0 : Int32)); decide)) (fun _ => ?_)
                refine lv_aload_n K.1 K.2.1 dX8_data_78 rfl (lv_at hl 1 rfl) ?_
                refine gM_0_32 K hw kf_X8_32 dX8_data_79 ?_
                refine lv_iload K.1 K.2.1 dX8_data_82 (lv_at hl 0 rfl) ?_
                refine lv_if_eq (tgt := 97) K.1 K.2.1 dX8_data_84 (by decide) (fun c84 => absurd c84 (by show ¬ ((1 : Int32) = (0 : Int32)); decide)) (fun _ => ?_)
                refine lv_bipush (v := 8) K.1 K.2.1 dX8_data_87 (by decide) ?_
                refine lv_iload_n K.1 K.2.1 dX8_data_89 rfl (lv_at hl 2 rfl) ?_
                refine lv_imul K.1 K.2.1 dX8_data_90 ?_
                refine lv_iload K.1 K.2.1 dX8_data_91 (lv_at hl 4 rfl) ?_
                refine lv_iadd K.1 K.2.1 dX8_data_93 ?_
                refine lv_goto (tgt := 98) K.1 K.2.1 dX8_data_94 (by decide) ?_
                refine lM_8 K hw (vDat c36 c43 hv c25) rfl dX8_data_98 ?_
                refine lv_sipush (v := 255) K.1 K.2.1 dX8_data_99 (by decide) ?_
                refine lv_iand K.1 K.2.1 dX8_data_102 ?_
                refine lv_goto (tgt := 107) K.1 K.2.1 dX8_data_103 (by decide) ?_
                refine lv_i2l K.1 K.2.1 dX8_data_107 rfl ?_
                refine lv_lor K.1 K.2.1 dX8_data_108 ?_
                refine lv_topl (fun x2_109 ex2_109 => ?_)
                refine lv_lstore_n (lv' := [(2, .long x2_109), (5, .int 1), (0, .ref (a 0)), (1, .int y1), (4, .int y4)]) K.1 K.2.1 dX8_data_109 rfl hl (by decide) rfl (fun ls hl => ?_)
                obtain ⟨x4_110, ex4_110⟩ : ∃ z9 : Int32, z9 = y4 + 1 := ⟨_, rfl⟩
                refine lv_iinc (v := x4_110) (lv' := [(4, .int x4_110), (2, .long x2_109), (5, .int 1), (0, .ref (a 0)), (1, .int y1)]) K.1 K.2.1 dX8_data_110 hl (k := 4) rfl (by rw [ex4_110]; rfl) (by decide) rfl (fun ls hl => ?_)
                refine lv_goto (tgt := 21) K.1 K.2.1 dX8_data_113 (by decide) ?_
                exact ih _ _ _ _ _ _ _ hw (lv_sub hl [3, 4, 1, 0] rfl) (stepUp hv c25 ex4_110 rfl (by decide)) (by subst ex4_110 ex2_109; exact (Eq.trans e0 (Eq.trans (if_neg c25) (Eq.trans (if_pos c32) (Eq.trans (if_neg c36) (Eq.trans (if_neg c43) (Eq.trans (if_neg c59) rfl)))))))
  refine lv_aload_n K.1 K.2.1 dX8_data_0 rfl (lv_at hl 0 rfl) ?_
  refine lv_aload_n K.1 K.2.1 dX8_data_1 rfl (lv_at hl 0 rfl) ?_
  refine gM_0_29 K hw kf_X8_182 dX8_data_2 ?_
  refine lv_if_ne (tgt := 12) K.1 K.2.1 dX8_data_5 (by decide) (fun c5 => ?_) (fun c5 => ?_)
  · refine lv_iconst (v := 0) K.1 K.2.1 dX8_data_12 (by decide) ?_
    refine pM_0_0 K hw kf_X8_39 dX8_data_13 (fun H locs hw => ?_)
    refine lv_lconst (v := 0) K.1 K.2.1 dX8_data_16 (by decide) ?_
    refine lv_lstore_n (lv' := [(2, .long 0), (0, .ref (a 0)), (1, .int x1)]) K.1 K.2.1 dX8_data_17 rfl hl (by decide) rfl (fun ls hl => ?_)
    refine lv_iconst (v := 0) K.1 K.2.1 dX8_data_18 (by decide) ?_
    refine lv_istore (lv' := [(4, .int 0), (2, .long 0), (0, .ref (a 0)), (1, .int x1)]) K.1 K.2.1 dX8_data_19 hl (by decide) rfl (fun ls hl => ?_)
    exact J21 9 _ _ _ _ _ _ _ hw (lv_sub hl [2, 3, 1, 0] rfl) (by decide) (by exact (Eq.trans (if_neg c5) rfl))
  · refine lv_iconst (v := 1) K.1 K.2.1 dX8_data_8 (by decide) ?_
    refine lv_goto (tgt := 13) K.1 K.2.1 dX8_data_9 (by decide) ?_
    refine pM_0_0 K hw kf_X8_39 dX8_data_13 (fun H locs hw => ?_)
    refine lv_lconst (v := 0) K.1 K.2.1 dX8_data_16 (by decide) ?_
    refine lv_lstore_n (lv' := [(2, .long 0), (0, .ref (a 0)), (1, .int x1)]) K.1 K.2.1 dX8_data_17 rfl hl (by decide) rfl (fun ls hl => ?_)
    refine lv_iconst (v := 0) K.1 K.2.1 dX8_data_18 (by decide) ?_
    refine lv_istore (lv' := [(4, .int 0), (2, .long 0), (0, .ref (a 0)), (1, .int x1)]) K.1 K.2.1 dX8_data_19 hl (by decide) rfl (fun ls hl => ?_)
    exact J21 9 _ _ _ _ _ _ _ hw (lv_sub hl [2, 3, 1, 0] rfl) (by decide) (by exact (Eq.trans (if_pos c5) rfl))
def g_X8_take_83 : Nat → PS → Int32 → PS × Int32
  | 0, σ, y2 => (σ, 0)
  | n + 1, σ, y2 => (if (7 * (σ.1 29)) ≤ y2 then (σ, 1) else let x2_109 : Int32 := y2 + 1; (g_X8_take_83 n (upA σ 6 (Int32.toNatClampNeg y2) (σ.2.1 6 (Int32.toNatClampNeg (y2 + 7)))) x2_109))
def g_X8_take_33 : Nat → PS → Int32 → Int32 → PS × Int32
  | 0, σ, y1, y2 => (σ, 0)
  | n + 1, σ, y1, y2 => (if (σ.1 31) ≤ y2 then (g_X8_take_83 113 (upS (upS σ 31 ((σ.1 31) - y1)) 29 ((σ.1 29) - 1)) 0) else let x2_55 : Int32 := y2 + 1; (g_X8_take_33 n (upA σ 7 (Int32.toNatClampNeg (y2 - y1)) (vp_nar .byte (σ.2.1 7 (Int32.toNatClampNeg y2)))) y1 x2_55))
def f_X8_take (σ0 : PS) : PS × Int32 := (if (σ0.1 29) = 0 then ((upS σ0 0 0), 0) else (if (σ0.2.1 6 6) ≤ 0 then let x1_30 : Int32 := (σ0.2.1 6 5); (g_X8_take_33 4097 (upS σ0 0 0) x1_30 x1_30) else ((upS σ0 0 0), 0)))
abbrev rm_X8_take : Room := { frames := 0, cells := 0, slots := 0, locals := 0 }
theorem nz_g_X8_take_83 {n : Nat} {σ : PS} {y2 : Int32} : NZ (g_X8_take_83 n σ y2).2 := by
  induction n generalizing σ y2 with
  | zero => exact nz0
  | succ n ih => exact (nzI2 nz1 ih)
theorem nz_g_X8_take_33 {n : Nat} {σ : PS} {y1 : Int32} {y2 : Int32} : NZ (g_X8_take_33 n σ y1 y2).2 := by
  induction n generalizing σ y1 y2 with
  | zero => exact nz0
  | succ n ih => exact (nzI2 nz_g_X8_take_83 ih)
theorem nz_X8_take {σ0 : PS} : NZ (f_X8_take σ0).2 := (nzI2 nz0 (nzI2 nz_g_X8_take_33 nz0))
set_option maxHeartbeats 4000000 in
set_option maxRecDepth 100000 in
theorem c_X8_take (l : Launch) (D : va_G) (a : Nat → Nat) (cA : Nat → ClassId) (σ0 : PS) (hI : Bm σ0) (h5 : 0 ≤ (σ0.2.1 6 5).toInt) : CI l yX8_take cX8_take 3 .boolean rm_X8_take D (mdT cA) [.ref (a 0)] (mdW a cA σ0) (mdW a cA (f_X8_take σ0).1) (f_X8_take σ0).2 := by
  refine en_i (by decide +kernel) (Nat.le_of_ble_eq_true rfl) nz_X8_take ?_
  intro p e s m args below meth c A ls Q K hw hl ret
  have hl : lv_has ls 3 [(0, .ref (a 0))] := hl
  have J83 : ∀ (n : Nat) (σ : PS) (y2 : Int32) (H : Heap) (locs : List Loc) (ls : Array Slot), WD D A s.heap (mdW a cA σ) H locs → lv_has ls 3 [(0, .ref (a 0)), (2, .int y2)] → 0 ≤ (σ.1 29).toInt ∧ (σ.1 29).toInt ≤ 15 → (ToI n (σ.1 29) y2) → f_X8_take σ0 = g_X8_take_83 n σ y2 → W p l e rm_X8_take s m args below meth c H locs 0 0 Q (F0 m 83 ls []) := by
    intro n
    induction n with
    | zero =>
      intro σ y2 H locs ls hw hl ho hv e0
      exact absurd hv (fun h9 => by obtain ⟨-, -, h4⟩ := h9; omega)
    | succ n ih =>
      intro σ y2 H locs ls hw hl ho hv e0
      refine lv_iload_n K.1 K.2.1 dX8_take_83 rfl (lv_at hl 1 rfl) ?_
      refine lv_bipush (v := 7) K.1 K.2.1 dX8_take_84 (by decide) ?_
      refine lv_aload_n K.1 K.2.1 dX8_take_86 rfl (lv_at hl 0 rfl) ?_
      refine gM_0_29 K hw kf_X8_182 dX8_take_87 ?_
      refine lv_imul K.1 K.2.1 dX8_take_90 ?_
      refine lv_icmp_ge (tgt := 115) K.1 K.2.1 dX8_take_91 (by decide) (fun c91 => ?_) (fun c91 => ?_)
      · refine lv_iconst (v := 1) K.1 K.2.1 dX8_take_115 (by decide) ?_
        have eq9 : f_X8_take σ0 = (σ, 1) := (by exact (Eq.trans e0 (Eq.trans (if_pos c91) rfl)))
        exact ret (congrArg (fun z => mdW a cA z.1) eq9) (congrArg (fun z => z.2) eq9) hw dX8_take_116
      · refine lv_aload_n K.1 K.2.1 dX8_take_94 rfl (lv_at hl 0 rfl) ?_
        refine gM_0_30 K hw kf_X8_29 dX8_take_95 ?_
        refine lv_iload_n K.1 K.2.1 dX8_take_98 rfl (lv_at hl 1 rfl) ?_
        refine lv_aload_n K.1 K.2.1 dX8_take_99 rfl (lv_at hl 0 rfl) ?_
        refine gM_0_30 K hw kf_X8_29 dX8_take_100 ?_
        refine lv_iload_n K.1 K.2.1 dX8_take_103 rfl (lv_at hl 1 rfl) ?_
        refine lv_bipush (v := 7) K.1 K.2.1 dX8_take_104 (by decide) ?_
        refine lv_iadd K.1 K.2.1 dX8_take_106 ?_
        refine lM_7 K hw (toA ho hv c91).2 rfl dX8_take_107 ?_
        refine sM_7 K hw (toA ho hv c91).1 rfl dX8_take_108 (fun H locs hw => ?_)
        obtain ⟨x2_109, ex2_109⟩ : ∃ z9 : Int32, z9 = y2 + 1 := ⟨_, rfl⟩
        refine lv_iinc (v := x2_109) (lv' := [(2, .int x2_109), (0, .ref (a 0))]) K.1 K.2.1 dX8_take_109 hl (k := 1) rfl (by rw [ex2_109]; rfl) (by decide) rfl (fun ls hl => ?_)
        refine lv_goto (tgt := 83) K.1 K.2.1 dX8_take_112 (by decide) ?_
        exact ih _ _ _ _ _ hw (lv_sub hl [1, 0] rfl) ho (toS ho hv c91 ex2_109) (by subst ex2_109; exact (Eq.trans e0 (Eq.trans (if_neg c91) rfl)))
  have J33 : ∀ (n : Nat) (σ : PS) (y1 : Int32) (y2 : Int32) (H : Heap) (locs : List Loc) (ls : Array Slot), WD D A s.heap (mdW a cA σ) H locs → lv_has ls 3 [(0, .ref (a 0)), (1, .int y1), (2, .int y2)] → Bm σ → 1 ≤ (σ.1 29).toInt → (TkI n (σ.1 31) y1 y2) → f_X8_take σ0 = g_X8_take_33 n σ y1 y2 → W p l e rm_X8_take s m args below meth c H locs 0 0 Q (F0 m 33 ls []) := by
    intro n
    induction n with
    | zero =>
      intro σ y1 y2 H locs ls hw hl hI h29 hv e0
      exact absurd hv (fun h9 => by obtain ⟨-, -, -, h4⟩ := h9; omega)
    | succ n ih =>
      intro σ y1 y2 H locs ls hw hl hI h29 hv e0
      refine lv_iload_n K.1 K.2.1 dX8_take_33 rfl (lv_at hl 2 rfl) ?_
      refine lv_aload_n K.1 K.2.1 dX8_take_34 rfl (lv_at hl 0 rfl) ?_
      refine gM_0_31 K hw kf_X8_188 dX8_take_35 ?_
      refine lv_icmp_ge (tgt := 61) K.1 K.2.1 dX8_take_38 (by decide) (fun c38 => ?_) (fun c38 => ?_)
      · refine lv_aload_n K.1 K.2.1 dX8_take_61 rfl (lv_at hl 0 rfl) ?_
        refine lv_dup K.1 K.2.1 dX8_take_62 rfl ?_
        refine gM_0_31 K hw kf_X8_188 dX8_take_63 ?_
        refine lv_iload_n K.1 K.2.1 dX8_take_66 rfl (lv_at hl 1 rfl) ?_
        refine lv_isub K.1 K.2.1 dX8_take_67 ?_
        refine pM_0_31 K hw kf_X8_188 dX8_take_68 (fun H locs hw => ?_)
        refine lv_aload_n K.1 K.2.1 dX8_take_71 rfl (lv_at hl 0 rfl) ?_
        refine lv_dup K.1 K.2.1 dX8_take_72 rfl ?_
        refine gM_0_29 K hw kf_X8_182 dX8_take_73 ?_
        refine lv_iconst (v := 1) K.1 K.2.1 dX8_take_76 (by decide) ?_
        refine lv_isub K.1 K.2.1 dX8_take_77 ?_
        refine pM_0_29 K hw kf_X8_182 dX8_take_78 (fun H locs hw => ?_)
        refine lv_iconst (v := 0) K.1 K.2.1 dX8_take_81 (by decide) ?_
        refine lv_istore_n (lv' := [(2, .int 0), (0, .ref (a 0)), (1, .int y1)]) K.1 K.2.1 dX8_take_82 rfl hl (by decide) rfl (fun ls hl => ?_)
        exact J83 113 _ _ _ _ _ hw (lv_sub hl [1, 0] rfl) (dec16 (bmg_29 (σ := σ) hI) h29) (by have h9 := dec16 (bmg_29 (σ := σ) hI) h29; refine ⟨by decide, ?_, by decide⟩; show 7 * ((σ.1 29) - 1).toInt - _ < _; have h8 : (0 : Int32).toInt = 0 := rfl; omega) (by exact (Eq.trans e0 (Eq.trans (if_pos c38) rfl)))
      · refine lv_aload_n K.1 K.2.1 dX8_take_41 rfl (lv_at hl 0 rfl) ?_
        refine gM_0_32 K hw kf_X8_32 dX8_take_42 ?_
        refine lv_iload_n K.1 K.2.1 dX8_take_45 rfl (lv_at hl 2 rfl) ?_
        refine lv_iload_n K.1 K.2.1 dX8_take_46 rfl (lv_at hl 1 rfl) ?_
        refine lv_isub K.1 K.2.1 dX8_take_47 ?_
        refine lv_aload_n K.1 K.2.1 dX8_take_48 rfl (lv_at hl 0 rfl) ?_
        refine gM_0_32 K hw kf_X8_32 dX8_take_49 ?_
        refine lv_iload_n K.1 K.2.1 dX8_take_52 rfl (lv_at hl 2 rfl) ?_
        refine lM_8 K hw (tkA (bmg_31 (σ := σ) hI).2 hv c38) rfl dX8_take_53 ?_
        refine sM_8 K hw (tkB (bmg_31 (σ := σ) hI).2 hv c38) rfl dX8_take_54 (fun H locs hw => ?_)
        obtain ⟨x2_55, ex2_55⟩ : ∃ z9 : Int32, z9 = y2 + 1 := ⟨_, rfl⟩
        refine lv_iinc (v := x2_55) (lv' := [(2, .int x2_55), (0, .ref (a 0)), (1, .int y1)]) K.1 K.2.1 dX8_take_55 hl (k := 2) rfl (by rw [ex2_55]; rfl) (by decide) rfl (fun ls hl => ?_)
        refine lv_goto (tgt := 33) K.1 K.2.1 dX8_take_58 (by decide) ?_
        exact ih _ _ _ _ _ _ hw (lv_sub hl [1, 2, 0] rfl) (bmA (by decide) hI) h29 (tkS (bmg_31 (σ := σ) hI).2 hv c38 ex2_55) (by subst ex2_55; exact (Eq.trans e0 (Eq.trans (if_neg c38) rfl)))
  refine lv_aload_n K.1 K.2.1 dX8_take_0 rfl (lv_at hl 0 rfl) ?_
  refine lv_iconst (v := 0) K.1 K.2.1 dX8_take_1 (by decide) ?_
  refine pM_0_0 K hw kf_X8_39 dX8_take_2 (fun H locs hw => ?_)
  refine lv_aload_n K.1 K.2.1 dX8_take_5 rfl (lv_at hl 0 rfl) ?_
  refine gM_0_29 K hw kf_X8_182 dX8_take_6 ?_
  refine lv_if_eq (tgt := 22) K.1 K.2.1 dX8_take_9 (by decide) (fun c9 => ?_) (fun c9 => ?_)
  · refine lv_iconst (v := 0) K.1 K.2.1 dX8_take_22 (by decide) ?_
    have eq9 : f_X8_take σ0 = ((upS σ0 0 0), 0) := (by exact (Eq.trans (if_pos c9) rfl))
    exact ret (congrArg (fun z => mdW a cA z.1) eq9) (congrArg (fun z => z.2) eq9) hw dX8_take_23
  · refine lv_aload_n K.1 K.2.1 dX8_take_12 rfl (lv_at hl 0 rfl) ?_
    refine gM_0_30 K hw kf_X8_29 dX8_take_13 ?_
    refine lv_bipush (v := 6) K.1 K.2.1 dX8_take_16 (by decide) ?_
    refine lM_7 K hw (vi_6 (by decide)) cl_6 dX8_take_18 ?_
    refine lv_if_le (tgt := 24) K.1 K.2.1 dX8_take_19 (by decide) (fun c19 => ?_) (fun c19 => ?_)
    · refine lv_aload_n K.1 K.2.1 dX8_take_24 rfl (lv_at hl 0 rfl) ?_
      refine gM_0_30 K hw kf_X8_29 dX8_take_25 ?_
      refine lv_iconst (v := 5) K.1 K.2.1 dX8_take_28 (by decide) ?_
      refine lM_7 K hw (vi_5 (by decide)) cl_5 dX8_take_29 ?_
      refine lv_topi (fun x1_30 ex1_30 => ?_)
      refine lv_istore_n (lv' := [(1, .int x1_30), (0, .ref (a 0))]) K.1 K.2.1 dX8_take_30 rfl hl (by decide) rfl (fun ls hl => ?_)
      refine lv_iload_n K.1 K.2.1 dX8_take_31 rfl (lv_at hl 0 rfl) ?_
      refine lv_istore_n (lv' := [(2, .int x1_30), (1, .int x1_30), (0, .ref (a 0))]) K.1 K.2.1 dX8_take_32 rfl hl (by decide) rfl (fun ls hl => ?_)
      exact J33 4097 _ _ _ _ _ _ hw (lv_sub hl [2, 1, 0] rfl) (bmS_0 hI) (ne0G (bmg_29 (σ := σ0) hI).1 c9) (by rw [ex1_30]; have h9 := bmg_31 (σ := σ0) hI; refine ⟨h5, Int.le_refl _, ?_, by decide⟩; show (σ0.1 31).toInt - (σ0.2.1 6 5).toInt < _; omega) (by subst ex1_30; exact (Eq.trans (if_neg c9) (Eq.trans (if_pos c19) rfl)))
    · refine lv_iconst (v := 0) K.1 K.2.1 dX8_take_22 (by decide) ?_
      have eq9 : f_X8_take σ0 = ((upS σ0 0 0), 0) := (by exact (Eq.trans (if_neg c9) (Eq.trans (if_neg c19) rfl)))
      exact ret (congrArg (fun z => mdW a cA z.1) eq9) (congrArg (fun z => z.2) eq9) hw dX8_take_23
