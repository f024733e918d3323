/-! side conditions of the reference's arrays -/
theorem mulc {c x : Int32} (cv : Int) (hc : c.toInt = cv) (h1 : -2147483648 ≤ cv * x.toInt) (h2 : cv * x.toInt ≤ 2147483647) : (c * x).toInt = cv * x.toInt := by
  rw [i32mul (by rw [hc]; exact h1) (by rw [hc]; exact h2), hc]
theorem linI {c x k : Int32} {n : Nat} (cv b : Int) (hc : c.toInt = cv) (hcv : 0 ≤ cv ∧ cv ≤ 256) (hx : 0 ≤ x.toInt ∧ x.toInt ≤ b) (hb : b ≤ 100000) (hk : 0 ≤ k.toInt ∧ cv * x.toInt + k.toInt < n) (hn : n ≤ 100000) : vp_in (c * x + k) n := by
  have h0 : 0 ≤ cv * x.toInt := Int.mul_nonneg hcv.1 hx.1
  have e := mulc (c := c) (x := x) cv hc (by omega) (by omega)
  refine vp_in_iff.mpr ?_
  rw [i32add (by omega) (by omega), e]
  omega
theorem linZ {c x : Int32} {n : Nat} (cv : Int) (hc : c.toInt = cv) (hx : 0 ≤ cv * x.toInt ∧ cv * x.toInt < n) (hn : n ≤ 100000) : vp_in (c * x) n := by
  have e := mulc (c := c) (x := x) cv hc (by omega) (by omega)
  refine vp_in_iff.mpr ?_
  rw [e]
  omega
theorem rem40 {p : Int32} (h : 0 ≤ p.toInt) : 0 ≤ (p - p / 40 * 40).toInt ∧ (p - p / 40 * 40).toInt ≤ 39 := by
  have hm : (p - p / 40 * 40).toInt = p.toInt.tmod 40 := rem_toInt p 40
  have h1 := Int.tmod_nonneg 40 h
  have h2 : p.toInt.tmod 40 < 40 := Int.tmod_lt_of_pos _ (by decide)
  omega
theorem pgI0 {p : Int32} (h : 0 ≤ p.toInt) : vp_in (4 * (p - p / 40 * 40)) 160 := by
  have := rem40 h
  exact linZ 4 rfl (by omega) (by decide)
theorem pgI {p k : Int32} (h : 0 ≤ p.toInt) (hk : 0 ≤ k.toInt ∧ k.toInt ≤ 3) : vp_in (4 * (p - p / 40 * 40) + k) 160 := by
  have h2 := rem40 h
  exact linI 4 39 rfl (by decide) h2 (by decide) (by omega) (by decide)
theorem vStep {f b : Int32} (hf : 0 ≤ f.toInt ∧ f.toInt ≤ 1) (hb : 0 ≤ b.toInt ∧ b.toInt ≤ 255) : vp_in (256 * f + b) 512 := linI 256 1 rfl (by decide) hf (by decide) (by omega) (by decide)
theorem ltI {v N : Int32} {b : Int} (h : ¬ N ≤ v) (hN : N.toInt = b) : v.toInt < b := by
  rw [Int32.le_iff_toInt_le] at h
  omega
theorem vGl {g : Int32} (h : 0 ≤ g.toInt) (hc : ¬ 6000 ≤ g) : vp_in (4 * g) 24000 := by
  have := ltI hc (b := 6000) rfl
  exact linZ 4 rfl (by omega) (by decide)
theorem vGlk {g k : Int32} (h : 0 ≤ g.toInt) (hc : ¬ 6000 ≤ g) (hk : 0 ≤ k.toInt ∧ k.toInt ≤ 3) : vp_in (4 * g + k) 24000 := by
  have := ltI hc (b := 6000) rfl
  exact linI 4 5999 rfl (by decide) (by omega) (by decide) (by omega) (by decide)
theorem ne16 {o : Int32} (h : 0 ≤ o.toInt ∧ o.toInt ≤ 16) (hc : ¬ o = 16) : 0 ≤ o.toInt ∧ o.toInt ≤ 15 := by
  have : o.toInt ≠ 16 := fun q => hc (Int32.toInt_inj.mp (by rw [q]; rfl))
  omega
theorem vOt0 {o : Int32} (h : 0 ≤ o.toInt ∧ o.toInt ≤ 16) (hc : ¬ o = 16) : vp_in (7 * o) 112 := by
  have := ne16 h hc
  exact linZ 7 rfl (by omega) (by decide)
theorem vOt {o k : Int32} (h : 0 ≤ o.toInt ∧ o.toInt ≤ 16) (hc : ¬ o = 16) (hk : 0 ≤ k.toInt ∧ k.toInt ≤ 6) : vp_in (7 * o + k) 112 := by
  have := ne16 h hc
  exact linI 7 15 rfl (by decide) this (by decide) (by omega) (by decide)
theorem inc16 {o : Int32} (h : 0 ≤ o.toInt ∧ o.toInt ≤ 16) (hc : ¬ o = 16) : 1 ≤ (o + 1).toInt ∧ (o + 1).toInt ≤ 16 := by
  have := ne16 h hc
  have h1 : (1 : Int32).toInt = 1 := rfl
  rw [i32add (by omega) (by omega)]
  omega
theorem vDt {o k : Int32} (h1 : 1 ≤ o.toInt) (h2 : o.toInt ≤ 16) (hk : 0 ≤ k.toInt ∧ k.toInt ≤ 6) : vp_in (7 * o - 7 + k) 112 := by
  have e := mulc (c := 7) (x := o) 7 rfl (by omega) (by omega)
  have h7 : (7 : Int32).toInt = 7 := rfl
  have e2 : (7 * o - 7).toInt = 7 * o.toInt - 7 := by rw [i32sub (by omega) (by omega), e, h7]
  refine vp_in_iff.mpr ?_
  rw [i32add (by omega) (by omega), e2]
  omega
theorem lin2 {c d : Int32} (cv : Int) (hc : c.toInt = cv) (hcv : 0 ≤ cv ∧ cv ≤ 100) (hd : 0 ≤ d.toInt ∧ d.toInt ≤ 100) : (c + 2 * d).toInt = cv + 2 * d.toInt := by
  have e := mulc (c := 2) (x := d) 2 rfl (by omega) (by omega)
  rw [i32add (by omega) (by omega), e, hc]
theorem vSt {c d : Int32} (cv : Int) (hc : c.toInt = cv) (hcv : 0 ≤ cv ∧ cv ≤ 100) (hd : 0 ≤ d.toInt ∧ d.toInt ≤ 100) (h : cv + 2 * d.toInt < 53) : vp_in (c + 2 * d) 53 := vp_in_iff.mpr (by rw [lin2 cv hc hcv hd]; omega)
theorem clT {x : Int32} (h : 0 ≤ x.toInt) : (x.toNatClampNeg : Int) = x.toInt := Int.toNat_of_nonneg h
theorem ge13 {c d : Int32} (cv : Int) (hc : c.toInt = cv) (hcv : 13 ≤ cv ∧ cv ≤ 100) (hd : 0 ≤ d.toInt ∧ d.toInt ≤ 100) : (c + 2 * d).toNatClampNeg ≠ 11 ∧ (c + 2 * d).toNatClampNeg ≠ 12 := by
  have e := lin2 (c := c) (d := d) cv hc (by omega) hd
  have := clT (x := c + 2 * d) (by omega)
  omega
theorem dep2 {v : Int32} (h : 0 ≤ v.toInt ∧ v.toInt ≤ 20) (hc : ¬ (20 : Int32) ≤ v) : 0 ≤ v.toInt ∧ v.toInt ≤ 19 := by
  have := ltI hc (b := 20) rfl
  omega
theorem pos1 {v : Int32} (hc : ¬ v ≤ 0) : 1 ≤ v.toInt := by
  rw [Int32.le_iff_toInt_le] at hc
  have : (0 : Int32).toInt = 0 := rfl
  omega
theorem le3 {v N : Int32} {b : Int} (h0 : ¬ v < 0) (h : v ≤ N) (hN : N.toInt = b) : 0 ≤ v.toInt ∧ v.toInt ≤ b := by
  rw [Int32.lt_iff_toInt_lt] at h0
  rw [Int32.le_iff_toInt_le] at h
  have : (0 : Int32).toInt = 0 := rfl
  omega
theorem nn0 {v : Int32} (h0 : ¬ v < 0) : 0 ≤ v.toInt := by
  rw [Int32.lt_iff_toInt_lt] at h0
  have : (0 : Int32).toInt = 0 := rfl
  omega
theorem vGy {i w g : Int32} (hg : 0 ≤ g.toInt ∧ g.toInt ≤ 6000) (h0 : ¬ i < 0) (h1 : ¬ g ≤ i) (h2 : ¬ w < 0) (h3 : w ≤ 3) : vp_in (4 * i + w) 24000 := by
  have a := nn0 h0
  rw [Int32.le_iff_toInt_le] at h1
  have b := le3 h2 h3 (b := 3) rfl
  exact linI 4 5999 rfl (by decide) (by omega) (by decide) (by omega) (by decide)
theorem vPl {i k d : Int32} (hd : 0 ≤ d.toInt ∧ d.toInt ≤ 20) (h0 : ¬ i < 0) (h1 : i < d) (hk : 0 ≤ k.toInt ∧ k.toInt ≤ 1) : vp_in (13 + 2 * i + k) 53 := by
  have a := nn0 h0
  rw [Int32.lt_iff_toInt_lt] at h1
  have e := lin2 (c := 13) (d := i) 13 rfl (by decide) (by omega)
  refine vp_in_iff.mpr ?_
  rw [i32add (by omega) (by omega), e]
  omega
theorem stepUp {y N z : Int32} {b : Int} {n : Nat} (hv : 0 ≤ y.toInt ∧ y.toInt ≤ b ∧ b - y.toInt < ((n + 1 : Nat) : Int)) (hc : ¬ N ≤ y) (he : z = y + 1) (hN : N.toInt = b) (hb : b ≤ 2147483646) : 0 ≤ z.toInt ∧ z.toInt ≤ b ∧ b - z.toInt < (n : Int) := by
  have h := ltI hc hN
  have h1 : (1 : Int32).toInt = 1 := rfl
  have e : z.toInt = y.toInt + 1 := by rw [he, i32add (by omega) (by omega), h1]
  omega
theorem stepDn {y z : Int32} {n : Nat} (hv : -1 ≤ y.toInt ∧ y.toInt ≤ 7 ∧ y.toInt + 1 < ((n + 1 : Nat) : Int)) (hc : ¬ y < 0) (he : z = y + (-1)) : -1 ≤ z.toInt ∧ z.toInt ≤ 7 ∧ z.toInt + 1 < (n : Int) := by
  have h := nn0 hc
  have h1 : (-1 : Int32).toInt = -1 := rfl
  have e : z.toInt = y.toInt - 1 := by rw [he, i32add (by omega) (by omega), h1]; omega
  omega
theorem ixUp {y N : Int32} {b : Int} {m : Nat} (h0 : 0 ≤ y.toInt) (hc : ¬ N ≤ y) (hN : N.toInt = b) (hb : b ≤ m) : vp_in y m := vp_in_iff.mpr ⟨h0, by have := ltI hc hN; omega⟩
theorem kIx {s k : Int32} (hs : 0 ≤ s.toInt ∧ s.toInt ≤ 2) (h0 : 0 ≤ k.toInt) (hc : ¬ (53 : Int32) ≤ k) : vp_in (53 * s + k) 159 := by
  have := ltI hc (b := 53) rfl
  exact linI 53 2 rfl (by decide) hs (by decide) (by omega) (by decide)
theorem and255 (z : Int64) : 0 ≤ ((z &&& 255).toInt32).toInt ∧ ((z &&& 255).toInt32).toInt ≤ 255 := by
  rw [Int64.toInt32_and]
  obtain ⟨j, hj, e⟩ := pk_andE z.toInt32 (m := (255 : Int64).toInt32) 8 (by decide)
  rw [e, nI_toInt (by omega)]
  omega
theorem i64mul {a b : Int64} (h1 : -9223372036854775808 ≤ a.toInt * b.toInt) (h2 : a.toInt * b.toInt ≤ 9223372036854775807) : (a * b).toInt = a.toInt * b.toInt := by
  rw [Int64.toInt_mul, Int.bmod_def]
  split <;> omega
theorem i64add {a b : Int64} (h1 : -9223372036854775808 ≤ a.toInt + b.toInt) (h2 : a.toInt + b.toInt ≤ 9223372036854775807) : (a + b).toInt = a.toInt + b.toInt := by
  rw [Int64.toInt_add, Int.bmod_def]
  split <;> omega
theorem i64sub {a b : Int64} (h1 : -9223372036854775808 ≤ a.toInt - b.toInt) (h2 : a.toInt - b.toInt ≤ 9223372036854775807) : (a - b).toInt = a.toInt - b.toInt := by
  rw [Int64.toInt_sub, Int.bmod_def]
  split <;> omega
theorem h8 {h : Int32} (hc : ¬ h ≤ 0) : ¬ (8 * h.toInt64 : Int64) = 0 := by
  intro q
  have h1 := pos1 hc
  have h2 := i32r h
  have e0 : h.toInt64.toInt = h.toInt := Int32.toInt_toInt64 h
  have h8 : (8 : Int64).toInt = 8 := rfl
  have e : (8 * h.toInt64 : Int64).toInt = 8 * h.toInt := by rw [i64mul (by rw [e0, h8]; omega) (by rw [e0, h8]; omega), e0, h8]
  rw [q] at e
  have : (0 : Int64).toInt = 0 := rfl
  omega
theorem bm_stk {σ : PS} {x y : Int32} (hI : Bm σ) (hc : ¬ (20 : Int32) ≤ σ.2.1 0 12) : Bm (upA (upA (upA σ 0 (Int32.toNatClampNeg (13 + 2 * σ.2.1 0 12)) x) 0 (Int32.toNatClampNeg (14 + 2 * σ.2.1 0 12)) y) 0 12 ((upA (upA σ 0 (Int32.toNatClampNeg (13 + 2 * σ.2.1 0 12)) x) 0 (Int32.toNatClampNeg (14 + 2 * σ.2.1 0 12)) y).2.1 0 12 + 1)) := by
  have hd := bmt_12 hI
  have g1 := ge13 (c := 13) (d := σ.2.1 0 12) 13 rfl (by decide) (by omega)
  have g2 := ge13 (c := 14) (d := σ.2.1 0 12) 14 rfl (by decide) (by omega)
  have e : (upA (upA σ 0 (Int32.toNatClampNeg (13 + 2 * σ.2.1 0 12)) x) 0 (Int32.toNatClampNeg (14 + 2 * σ.2.1 0 12)) y).2.1 0 12 = σ.2.1 0 12 := by
    simp only [upA, va_up, upd, if_true, if_neg (Ne.symm g1.2), if_neg (Ne.symm g2.2)]
  rw [e]
  have h := inc1 hd.1 hc (b := 20) rfl (by decide)
  exact bmT_12 (bmT (bmT hI g1.1 g1.2) g2.1 g2.2) h.1 h.2
theorem bm_pop {σ : PS} (hI : Bm σ) (hc : ¬ σ.2.1 0 12 ≤ 0) : Bm (upA σ 0 12 (σ.2.1 0 12 - 1)) := bmT_12 hI (dec1 (bmt_12 hI) hc).1 (Int.le_trans (dec1 (bmt_12 hI) hc).2 (by decide))
def f_X8_across (x0 : Int32) : Int32 := (if x0 = 1 then 52200 else (if x0 = 2 then 61200 else (if x0 = 3 then 61200 else (if x0 = 6 then 79200 else (if x0 = 26 then 59528 else 0)))))
abbrev rm_X8_across : Room := { frames := 0, cells := 0, slots := 0, locals := 0 }
set_option maxHeartbeats 4000000 in
set_option maxRecDepth 100000 in
theorem c_X8_across (l : Launch) (D : va_G) (a : Nat → Nat) (cA : Nat → ClassId) (σ0 : PS) (x0 : Int32) : CI l yX8_across cX8_across 1 .int rm_X8_across D (mdT cA) [.int x0] (mdW a cA σ0) (mdW a cA σ0) (f_X8_across x0) := by
  refine en_i (by decide +kernel) (Nat.le_of_ble_eq_true rfl) rfl ?_
  intro p e s m args below meth c A ls Q K hw hl ret
  have hl : lv_has ls 1 [(0, .int x0)] := hl
  refine lv_iload_n K.1 K.2.1 dX8_across_0 rfl (lv_at hl 0 rfl) ?_
  refine lv_iconst (v := 1) K.1 K.2.1 dX8_across_1 (by decide) ?_
  refine lv_icmp_ne (tgt := 10) K.1 K.2.1 dX8_across_2 (by decide) (fun c2 => ?_) (fun c2 => ?_)
  · refine lv_iload_n K.1 K.2.1 dX8_across_10 rfl (lv_at hl 0 rfl) ?_
    refine lv_iconst (v := 2) K.1 K.2.1 dX8_across_11 (by decide) ?_
    refine lv_icmp_eq (tgt := 20) K.1 K.2.1 dX8_across_12 (by decide) (fun c12 => ?_) (fun c12 => ?_)
    · refine lv_ldc K.1 K.2.1 K.2.2.2.1 (K.2.2.1 _ kc_X8_44) dX8_across_20 ?_
      refine lv_goto (tgt := 48) K.1 K.2.1 dX8_across_22 (by decide) ?_
      exact ret rfl (by exact (Eq.trans (if_neg c2) (Eq.trans (if_pos c12) rfl))) hw dX8_across_48
    · refine lv_iload_n K.1 K.2.1 dX8_across_15 rfl (lv_at hl 0 rfl) ?_
      refine lv_iconst (v := 3) K.1 K.2.1 dX8_across_16 (by decide) ?_
      refine lv_icmp_ne (tgt := 25) K.1 K.2.1 dX8_across_17 (by decide) (fun c17 => ?_) (fun c17 => ?_)
      · refine lv_iload_n K.1 K.2.1 dX8_across_25 rfl (lv_at hl 0 rfl) ?_
        refine lv_bipush (v := 6) K.1 K.2.1 dX8_across_26 (by decide) ?_
        refine lv_icmp_ne (tgt := 36) K.1 K.2.1 dX8_across_28 (by decide) (fun c28 => ?_) (fun c28 => ?_)
        · refine lv_iload_n K.1 K.2.1 dX8_across_36 rfl (lv_at hl 0 rfl) ?_
          refine lv_bipush (v := 26) K.1 K.2.1 dX8_across_37 (by decide) ?_
          refine lv_icmp_ne (tgt := 47) K.1 K.2.1 dX8_across_39 (by decide) (fun c39 => ?_) (fun c39 => ?_)
          · refine lv_iconst (v := 0) K.1 K.2.1 dX8_across_47 (by decide) ?_
            exact ret rfl (by exact (Eq.trans (if_neg c2) (Eq.trans (if_neg c12) (Eq.trans (if_neg c17) (Eq.trans (if_neg c28) (Eq.trans (if_neg c39) rfl)))))) hw dX8_across_48
          · refine lv_ldc K.1 K.2.1 K.2.2.2.1 (K.2.2.1 _ kc_X8_46) dX8_across_42 ?_
            refine lv_goto (tgt := 48) K.1 K.2.1 dX8_across_44 (by decide) ?_
            exact ret rfl (by exact (Eq.trans (if_neg c2) (Eq.trans (if_neg c12) (Eq.trans (if_neg c17) (Eq.trans (if_neg c28) (Eq.trans (if_pos c39) rfl)))))) hw dX8_across_48
        · refine lv_ldc K.1 K.2.1 K.2.2.2.1 (K.2.2.1 _ kc_X8_45) dX8_across_31 ?_
          refine lv_goto (tgt := 48) K.1 K.2.1 dX8_across_33 (by decide) ?_
          exact ret rfl (by exact (Eq.trans (if_neg c2) (Eq.trans (if_neg c12) (Eq.trans (if_neg c17) (Eq.trans (if_pos c28) rfl))))) hw dX8_across_48
      · refine lv_ldc K.1 K.2.1 K.2.2.2.1 (K.2.2.1 _ kc_X8_44) dX8_across_20 ?_
        refine lv_goto (tgt := 48) K.1 K.2.1 dX8_across_22 (by decide) ?_
        exact ret rfl (by exact (Eq.trans (if_neg c2) (Eq.trans (if_neg c12) (Eq.trans (if_pos c17) rfl)))) hw dX8_across_48
  · refine lv_ldc K.1 K.2.1 K.2.2.2.1 (K.2.2.1 _ kc_X8_43) dX8_across_5 ?_
    refine lv_goto (tgt := 48) K.1 K.2.1 dX8_across_7 (by decide) ?_
    exact ret rfl (by exact (Eq.trans (if_pos c2) rfl)) hw dX8_across_48
def f_X8_down (x0 : Int32) : Int32 := (if x0 = 1 then 75600 else (if x0 = 2 then 79200 else (if x0 = 3 then 100800 else (if x0 = 6 then 122400 else 84189))))
abbrev rm_X8_down : Room := { frames := 0, cells := 0, slots := 0, locals := 0 }
set_option maxHeartbeats 4000000 in
set_option maxRecDepth 100000 in
theorem c_X8_down (l : Launch) (D : va_G) (a : Nat → Nat) (cA : Nat → ClassId) (σ0 : PS) (x0 : Int32) : CI l yX8_down cX8_down 1 .int rm_X8_down D (mdT cA) [.int x0] (mdW a cA σ0) (mdW a cA σ0) (f_X8_down x0) := by
  refine en_i (by decide +kernel) (Nat.le_of_ble_eq_true rfl) rfl ?_
  intro p e s m args below meth c A ls Q K hw hl ret
  have hl : lv_has ls 1 [(0, .int x0)] := hl
  refine lv_iload_n K.1 K.2.1 dX8_down_0 rfl (lv_at hl 0 rfl) ?_
  refine lv_iconst (v := 1) K.1 K.2.1 dX8_down_1 (by decide) ?_
  refine lv_icmp_ne (tgt := 10) K.1 K.2.1 dX8_down_2 (by decide) (fun c2 => ?_) (fun c2 => ?_)
  · refine lv_iload_n K.1 K.2.1 dX8_down_10 rfl (lv_at hl 0 rfl) ?_
    refine lv_iconst (v := 2) K.1 K.2.1 dX8_down_11 (by decide) ?_
    refine lv_icmp_ne (tgt := 20) K.1 K.2.1 dX8_down_12 (by decide) (fun c12 => ?_) (fun c12 => ?_)
    · refine lv_iload_n K.1 K.2.1 dX8_down_20 rfl (lv_at hl 0 rfl) ?_
      refine lv_iconst (v := 3) K.1 K.2.1 dX8_down_21 (by decide) ?_
      refine lv_icmp_ne (tgt := 30) K.1 K.2.1 dX8_down_22 (by decide) (fun c22 => ?_) (fun c22 => ?_)
      · refine lv_iload_n K.1 K.2.1 dX8_down_30 rfl (lv_at hl 0 rfl) ?_
        refine lv_bipush (v := 6) K.1 K.2.1 dX8_down_31 (by decide) ?_
        refine lv_icmp_ne (tgt := 41) K.1 K.2.1 dX8_down_33 (by decide) (fun c33 => ?_) (fun c33 => ?_)
        · refine lv_ldc K.1 K.2.1 K.2.2.2.1 (K.2.2.1 _ kc_X8_50) dX8_down_41 ?_
          exact ret rfl (by exact (Eq.trans (if_neg c2) (Eq.trans (if_neg c12) (Eq.trans (if_neg c22) (Eq.trans (if_neg c33) rfl))))) hw dX8_down_43
        · refine lv_ldc K.1 K.2.1 K.2.2.2.1 (K.2.2.1 _ kc_X8_49) dX8_down_36 ?_
          refine lv_goto (tgt := 43) K.1 K.2.1 dX8_down_38 (by decide) ?_
          exact ret rfl (by exact (Eq.trans (if_neg c2) (Eq.trans (if_neg c12) (Eq.trans (if_neg c22) (Eq.trans (if_pos c33) rfl))))) hw dX8_down_43
      · refine lv_ldc K.1 K.2.1 K.2.2.2.1 (K.2.2.1 _ kc_X8_48) dX8_down_25 ?_
        refine lv_goto (tgt := 43) K.1 K.2.1 dX8_down_27 (by decide) ?_
        exact ret rfl (by exact (Eq.trans (if_neg c2) (Eq.trans (if_neg c12) (Eq.trans (if_pos c22) rfl)))) hw dX8_down_43
    · refine lv_ldc K.1 K.2.1 K.2.2.2.1 (K.2.2.1 _ kc_X8_45) dX8_down_15 ?_
      refine lv_goto (tgt := 43) K.1 K.2.1 dX8_down_17 (by decide) ?_
      exact ret rfl (by exact (Eq.trans (if_neg c2) (Eq.trans (if_pos c12) rfl))) hw dX8_down_43
  · refine lv_ldc K.1 K.2.1 K.2.2.2.1 (K.2.2.1 _ kc_X8_47) dX8_down_5 ?_
    refine lv_goto (tgt := 43) K.1 K.2.1 dX8_down_7 (by decide) ?_
    exact ret rfl (by exact (Eq.trans (if_pos c2) rfl)) hw dX8_down_43
def g_X8_measure_46 (σ : PS) (y1 : Int32) (k0 : Int32) : PS := (if y1 = 0 then (upS (upS σ 7 k0) 8 (f_X8_down (σ.1 4))) else (upS (upS σ 7 k0) 8 (f_X8_across (σ.1 4))))
def g_X8_measure_15 (σ : PS) (k0 : Int32) : PS := (if k0 = 0 then (g_X8_measure_46 σ k0 ((f_X8_across (σ.1 4)) - 3600)) else (g_X8_measure_46 σ k0 ((f_X8_down (σ.1 4)) - 2880)))
def f_X8_measure (σ0 : PS) : PS := (if ((σ0.1 5) - (σ0.1 5) / 2 * 2) = 1 then (g_X8_measure_15 σ0 1) else (g_X8_measure_15 σ0 0))
theorem bm_g_X8_measure_46 {σ : PS} {y1 : Int32} {k0 : Int32} (hI : Bm σ) : Bm (g_X8_measure_46 σ y1 k0) := (bxI (fun c51 => (bmS_8 (bmS_7 hI))) (fun c51 => (bmS_8 (bmS_7 hI))))
theorem bm_g_X8_measure_15 {σ : PS} {k0 : Int32} (hI : Bm σ) : Bm (g_X8_measure_15 σ k0) := (bxI (fun c18 => (bm_g_X8_measure_46 hI)) (fun c18 => (bm_g_X8_measure_46 hI)))
theorem bm_X8_measure {σ0 : PS} (hI : Bm σ0) : Bm (f_X8_measure σ0) := (bxI (fun c7 => (bm_g_X8_measure_15 hI)) (fun c7 => (bm_g_X8_measure_15 hI)))
theorem pm_g_X8_measure_46 {n : Int} {σ : PS} {y1 : Int32} {k0 : Int32} (hP : Pm n σ) : Pm (n) (g_X8_measure_46 σ y1 k0) := (bxI (fun c51 => hP) (fun c51 => hP))
theorem pm_g_X8_measure_15 {n : Int} {σ : PS} {k0 : Int32} (hP : Pm n σ) : Pm (n) (g_X8_measure_15 σ k0) := (bxI (fun c18 => (pm_g_X8_measure_46 hP)) (fun c18 => (pm_g_X8_measure_46 hP)))
theorem pm_X8_measure {n : Int} {σ0 : PS} (hP : Pm n σ0) : Pm (n) (f_X8_measure σ0) := (bxI (fun c7 => (pm_g_X8_measure_15 hP)) (fun c7 => (pm_g_X8_measure_15 hP)))
abbrev rm_X8_measure : Room := { frames := 1, cells := 0, slots := 0, locals := 20 }
set_option maxHeartbeats 4000000 in
set_option maxRecDepth 100000 in
theorem c_X8_measure (l : Launch) (D : va_G) (a : Nat → Nat) (cA : Nat → ClassId) (σ0 : PS) : CV l yX8_measure cX8_measure 2 rm_X8_measure D (mdT cA) [.ref (a 0)] (mdW a cA σ0) (mdW a cA (f_X8_measure σ0)) := by
  refine en_v (by decide +kernel) (Nat.le_of_ble_eq_true rfl) ?_
  intro p e s m args below meth c A ls Q K hw hl ret
  have hl : lv_has ls 2 [(0, .ref (a 0))] := hl
  have J46 : ∀ (σ : PS) (y1 : Int32) (k0 : Int32) (H : Heap) (locs : List Loc) (ls : Array Slot), WD D A s.heap (mdW a cA σ) H locs → lv_has ls 2 [(0, .ref (a 0)), (1, .int y1)] → f_X8_measure σ0 = g_X8_measure_46 σ y1 k0 → W p l e rm_X8_measure s m args below meth c H locs 0 0 Q (F0 m 46 ls [.int k0, .ref (a 0)]) := by
    intro σ y1 k0 H locs ls hw hl e0
    refine pM_0_7 K hw kf_X8_64 dX8_measure_46 (fun H locs hw => ?_)
    refine lv_aload_n K.1 K.2.1 dX8_measure_49 rfl (lv_at hl 0 rfl) ?_
    refine lv_iload_n K.1 K.2.1 dX8_measure_50 rfl (lv_at hl 1 rfl) ?_
    refine lv_if_eq (tgt := 64) K.1 K.2.1 dX8_measure_51 (by decide) (fun c51 => ?_) (fun c51 => ?_)
    · refine lv_aload_n K.1 K.2.1 dX8_measure_64 rfl (lv_at hl 0 rfl) ?_
      refine gM_0_4 K hw kf_X8_54 dX8_measure_65 ?_
      refine caS K hw (c_X8_down l D a cA _ _) hl.1 km_X8_57 kS_X8_down ki_X8 kC_X8_down (na := 1) rfl (by decide +kernel) ⟨rfl, rfl⟩ (by decide) ⟨Nat.zero_le _, Nat.zero_le _⟩ rfl (Nat.le_of_ble_eq_true rfl) dX8_measure_68 (fun H locs hw => ?_)
      refine pM_0_8 K hw kf_X8_67 dX8_measure_71 (fun H locs hw => ?_)
      exact ret (congrArg (mdW a cA) (by exact (Eq.trans e0 (Eq.trans (if_pos c51) rfl)))) hw dX8_measure_74
    · refine lv_aload_n K.1 K.2.1 dX8_measure_54 rfl (lv_at hl 0 rfl) ?_
      refine gM_0_4 K hw kf_X8_54 dX8_measure_55 ?_
      refine caS K hw (c_X8_across l D a cA _ _) hl.1 km_X8_61 kS_X8_across ki_X8 kC_X8_across (na := 1) rfl (by decide +kernel) ⟨rfl, rfl⟩ (by decide) ⟨Nat.zero_le _, Nat.zero_le _⟩ rfl (Nat.le_of_ble_eq_true rfl) dX8_measure_58 (fun H locs hw => ?_)
      refine lv_goto (tgt := 71) K.1 K.2.1 dX8_measure_61 (by decide) ?_
      refine pM_0_8 K hw kf_X8_67 dX8_measure_71 (fun H locs hw => ?_)
      exact ret (congrArg (mdW a cA) (by exact (Eq.trans e0 (Eq.trans (if_neg c51) rfl)))) hw dX8_measure_74
  have J15 : ∀ (σ : PS) (k0 : Int32) (H : Heap) (locs : List Loc) (ls : Array Slot), WD D A s.heap (mdW a cA σ) H locs → lv_has ls 2 [(0, .ref (a 0))] → f_X8_measure σ0 = g_X8_measure_15 σ k0 → W p l e rm_X8_measure s m args below meth c H locs 0 0 Q (F0 m 15 ls [.int k0]) := by
    intro σ k0 H locs ls hw hl e0
    refine lv_istore_n (lv' := [(1, .int k0), (0, .ref (a 0))]) K.1 K.2.1 dX8_measure_15 rfl hl (by decide) rfl (fun ls hl => ?_)
    refine lv_aload_n K.1 K.2.1 dX8_measure_16 rfl (lv_at hl 1 rfl) ?_
    refine lv_iload_n K.1 K.2.1 dX8_measure_17 rfl (lv_at hl 0 rfl) ?_
    refine lv_if_eq (tgt := 35) K.1 K.2.1 dX8_measure_18 (by decide) (fun c18 => ?_) (fun c18 => ?_)
    · refine lv_aload_n K.1 K.2.1 dX8_measure_35 rfl (lv_at hl 1 rfl) ?_
      refine gM_0_4 K hw kf_X8_54 dX8_measure_36 ?_
      refine caS K hw (c_X8_across l D a cA _ _) hl.1 km_X8_61 kS_X8_across ki_X8 kC_X8_across (na := 1) rfl (by decide +kernel) ⟨rfl, rfl⟩ (by decide) ⟨Nat.zero_le _, Nat.zero_le _⟩ rfl (Nat.le_of_ble_eq_true rfl) dX8_measure_39 (fun H locs hw => ?_)
      refine lv_sipush (v := 3600) K.1 K.2.1 dX8_measure_42 (by decide) ?_
      refine lv_isub K.1 K.2.1 dX8_measure_45 ?_
      exact J46 _ _ _ _ _ _ hw (lv_sub hl [1, 0] rfl) (by exact (Eq.trans e0 (Eq.trans (if_pos c18) rfl)))
    · refine lv_aload_n K.1 K.2.1 dX8_measure_21 rfl (lv_at hl 1 rfl) ?_
      refine gM_0_4 K hw kf_X8_54 dX8_measure_22 ?_
      refine caS K hw (c_X8_down l D a cA _ _) hl.1 km_X8_57 kS_X8_down ki_X8 kC_X8_down (na := 1) rfl (by decide +kernel) ⟨rfl, rfl⟩ (by decide) ⟨Nat.zero_le _, Nat.zero_le _⟩ rfl (Nat.le_of_ble_eq_true rfl) dX8_measure_25 (fun H locs hw => ?_)
      refine lv_sipush (v := 2880) K.1 K.2.1 dX8_measure_28 (by decide) ?_
      refine lv_isub K.1 K.2.1 dX8_measure_31 ?_
      refine lv_goto (tgt := 46) K.1 K.2.1 dX8_measure_32 (by decide) ?_
      exact J46 _ _ _ _ _ _ hw (lv_sub hl [1, 0] rfl) (by exact (Eq.trans e0 (Eq.trans (if_neg c18) rfl)))
  refine lv_aload_n K.1 K.2.1 dX8_measure_0 rfl (lv_at hl 0 rfl) ?_
  refine gM_0_5 K hw kf_X8_51 dX8_measure_1 ?_
  refine lv_iconst (v := 2) K.1 K.2.1 dX8_measure_4 (by decide) ?_
  refine lv_irem K.1 K.2.1 dX8_measure_5 (by decide) ?_
  refine lv_iconst (v := 1) K.1 K.2.1 dX8_measure_6 (by decide) ?_
  refine lv_icmp_ne (tgt := 14) K.1 K.2.1 dX8_measure_7 (by decide) (fun c7 => ?_) (fun c7 => ?_)
  · refine lv_iconst (v := 0) K.1 K.2.1 dX8_measure_14 (by decide) ?_
    exact J15 _ _ _ _ _ hw (lv_sub hl [0] rfl) (by exact (Eq.trans (if_neg c7) rfl))
  · refine lv_iconst (v := 1) K.1 K.2.1 dX8_measure_10 (by decide) ?_
    refine lv_goto (tgt := 15) K.1 K.2.1 dX8_measure_11 (by decide) ?_
    exact J15 _ _ _ _ _ hw (lv_sub hl [0] rfl) (by exact (Eq.trans (if_pos c7) rfl))
def f_X8_within (x0 : Int64) (x2 : Int32) : Int32 := (if 0 ≤ x0 then (if x0 ≤ (Int32.toInt64 x2) then (Int64.toInt32 x0) else x2) else 0)
abbrev rm_X8_within : Room := { frames := 0, cells := 0, slots := 0, locals := 0 }
set_option maxHeartbeats 4000000 in
set_option maxRecDepth 100000 in
theorem c_X8_within (l : Launch) (D : va_G) (a : Nat → Nat) (cA : Nat → ClassId) (σ0 : PS) (x0 : Int64) (x2 : Int32) : CI l yX8_within cX8_within 3 .int rm_X8_within D (mdT cA) [.long x0, .int x2] (mdW a cA σ0) (mdW a cA σ0) (f_X8_within x0 x2) := by
  refine en_i (by decide +kernel) (Nat.le_of_ble_eq_true rfl) rfl ?_
  intro p e s m args below meth c A ls Q K hw hl ret
  have hl : lv_has ls 3 [(0, .long x0), (2, .int x2)] := hl
  refine lv_lload_n K.1 K.2.1 dX8_within_0 rfl (lv_at hl 0 rfl) ?_
  refine lv_lconst (v := 0) K.1 K.2.1 dX8_within_1 (by decide) ?_
  refine lc_ge (tgt := 10) K dX8_within_2 dX8_within_3 (by decide) (fun c2 => ?_) (fun c2 => ?_)
  · refine lv_lload_n K.1 K.2.1 dX8_within_10 rfl (lv_at hl 0 rfl) ?_
    refine lv_iload_n K.1 K.2.1 dX8_within_11 rfl (lv_at hl 1 rfl) ?_
    refine lv_i2l K.1 K.2.1 dX8_within_12 rfl ?_
    refine lc_le (tgt := 21) K dX8_within_13 dX8_within_14 (by decide) (fun c13 => ?_) (fun c13 => ?_)
    · refine lv_lload_n K.1 K.2.1 dX8_within_21 rfl (lv_at hl 0 rfl) ?_
      refine lv_l2i K.1 K.2.1 dX8_within_22 rfl ?_
      exact ret rfl (by exact (Eq.trans (if_pos c2) (Eq.trans (if_pos c13) rfl))) hw dX8_within_23
    · refine lv_iload_n K.1 K.2.1 dX8_within_17 rfl (lv_at hl 1 rfl) ?_
      refine lv_goto (tgt := 23) K.1 K.2.1 dX8_within_18 (by decide) ?_
      exact ret rfl (by exact (Eq.trans (if_pos c2) (Eq.trans (if_neg c13) rfl))) hw dX8_within_23
  · refine lv_iconst (v := 0) K.1 K.2.1 dX8_within_6 (by decide) ?_
    refine lv_goto (tgt := 23) K.1 K.2.1 dX8_within_7 (by decide) ?_
    exact ret rfl (by exact (Eq.trans (if_neg c2) rfl)) hw dX8_within_23
def f_X8_setX (σ0 : PS) (x1 : Int64) : PS := (upA σ0 0 0 (f_X8_within x1 (σ0.1 7)))
theorem bm_X8_setX {σ0 : PS} {x1 : Int64} (hI : Bm σ0) : Bm (f_X8_setX σ0 x1) := (bmT hI (by decide) (by decide))
theorem pm_X8_setX {n : Int} {σ0 : PS} {x1 : Int64} (hP : Pm n σ0) : Pm (n) (f_X8_setX σ0 x1) := hP
abbrev rm_X8_setX : Room := { frames := 1, cells := 0, slots := 0, locals := 22 }
set_option maxHeartbeats 4000000 in
set_option maxRecDepth 100000 in
theorem c_X8_setX (l : Launch) (D : va_G) (a : Nat → Nat) (cA : Nat → ClassId) (σ0 : PS) (x1 : Int64) : CV l yX8_setX cX8_setX 3 rm_X8_setX D (mdT cA) [.ref (a 0), .long x1] (mdW a cA σ0) (mdW a cA (f_X8_setX σ0 x1)) := by
  refine en_v (by decide +kernel) (Nat.le_of_ble_eq_true rfl) ?_
  intro p e s m args below meth c A ls Q K hw hl ret
  have hl : lv_has ls 3 [(0, .ref (a 0)), (1, .long x1)] := hl
  refine lv_aload_n K.1 K.2.1 dX8_setX_0 rfl (lv_at hl 0 rfl) ?_
  refine gM_0_1 K hw kf_X8_7 dX8_setX_1 ?_
  refine lv_iconst (v := 0) K.1 K.2.1 dX8_setX_4 (by decide) ?_
  refine lv_lload_n K.1 K.2.1 dX8_setX_5 rfl (lv_at hl 1 rfl) ?_
  refine lv_aload_n K.1 K.2.1 dX8_setX_6 rfl (lv_at hl 0 rfl) ?_
  refine gM_0_7 K hw kf_X8_64 dX8_setX_7 ?_
  refine caS K hw (c_X8_within l D a cA _ _ _) hl.1 km_X8_70 kS_X8_within ki_X8 kC_X8_within (na := 2) rfl (by decide +kernel) ⟨rfl, rfl⟩ (by decide) ⟨Nat.zero_le _, Nat.zero_le _⟩ rfl (Nat.le_of_ble_eq_true rfl) dX8_setX_10 (fun H locs hw => ?_)
  refine sM_1 K hw (vi_0 (by decide)) cl_0 dX8_setX_13 (fun H locs hw => ?_)
  exact ret (congrArg (mdW a cA) (by exact rfl)) hw dX8_setX_14
def f_X8_setY (σ0 : PS) (x1 : Int64) : PS := (upA σ0 0 1 (f_X8_within x1 (σ0.1 8)))
theorem bm_X8_setY {σ0 : PS} {x1 : Int64} (hI : Bm σ0) : Bm (f_X8_setY σ0 x1) := (bmT hI (by decide) (by decide))
theorem pm_X8_setY {n : Int} {σ0 : PS} {x1 : Int64} (hP : Pm n σ0) : Pm (n) (f_X8_setY σ0 x1) := hP
abbrev rm_X8_setY : Room := { frames := 1, cells := 0, slots := 0, locals := 22 }
set_option maxHeartbeats 4000000 in
set_option maxRecDepth 100000 in
theorem c_X8_setY (l : Launch) (D : va_G) (a : Nat → Nat) (cA : Nat → ClassId) (σ0 : PS) (x1 : Int64) : CV l yX8_setY cX8_setY 3 rm_X8_setY D (mdT cA) [.ref (a 0), .long x1] (mdW a cA σ0) (mdW a cA (f_X8_setY σ0 x1)) := by
  refine en_v (by decide +kernel) (Nat.le_of_ble_eq_true rfl) ?_
  intro p e s m args below meth c A ls Q K hw hl ret
  have hl : lv_has ls 3 [(0, .ref (a 0)), (1, .long x1)] := hl
  refine lv_aload_n K.1 K.2.1 dX8_setY_0 rfl (lv_at hl 0 rfl) ?_
  refine gM_0_1 K hw kf_X8_7 dX8_setY_1 ?_
  refine lv_iconst (v := 1) K.1 K.2.1 dX8_setY_4 (by decide) ?_
  refine lv_lload_n K.1 K.2.1 dX8_setY_5 rfl (lv_at hl 1 rfl) ?_
  refine lv_aload_n K.1 K.2.1 dX8_setY_6 rfl (lv_at hl 0 rfl) ?_
  refine gM_0_8 K hw kf_X8_67 dX8_setY_7 ?_
  refine caS K hw (c_X8_within l D a cA _ _ _) hl.1 km_X8_70 kS_X8_within ki_X8 kC_X8_within (na := 2) rfl (by decide +kernel) ⟨rfl, rfl⟩ (by decide) ⟨Nat.zero_le _, Nat.zero_le _⟩ rfl (Nat.le_of_ble_eq_true rfl) dX8_setY_10 (fun H locs hw => ?_)
  refine sM_1 K hw (vi_1 (by decide)) cl_1 dX8_setY_13 (fun H locs hw => ?_)
  exact ret (congrArg (mdW a cA) (by exact rfl)) hw dX8_setY_14
def f_X8_home (σ0 : PS) : Int32 := ((σ0.2.1 0 4) + (((σ0.2.1 0 7) * 3) / 4))
abbrev rm_X8_home : Room := { frames := 0, cells := 0, slots := 0, locals := 0 }
set_option maxHeartbeats 4000000 in
set_option maxRecDepth 100000 in
theorem c_X8_home (l : Launch) (D : va_G) (a : Nat → Nat) (cA : Nat → ClassId) (σ0 : PS) : CI l yX8_home cX8_home 1 .int rm_X8_home D (mdT cA) [.ref (a 0)] (mdW a cA σ0) (mdW a cA σ0) (f_X8_home σ0) := by
  refine en_i (by decide +kernel) (Nat.le_of_ble_eq_true rfl) rfl ?_
  intro p e s m args below meth c A ls Q K hw hl ret
  have hl : lv_has ls 1 [(0, .ref (a 0))] := hl
  refine lv_aload_n K.1 K.2.1 dX8_home_0 rfl (lv_at hl 0 rfl) ?_
  refine gM_0_1 K hw kf_X8_7 dX8_home_1 ?_
  refine lv_iconst (v := 4) K.1 K.2.1 dX8_home_4 (by decide) ?_
  refine lM_1 K hw (vi_4 (by decide)) cl_4 dX8_home_5 ?_
  refine lv_aload_n K.1 K.2.1 dX8_home_6 rfl (lv_at hl 0 rfl) ?_
  refine gM_0_1 K hw kf_X8_7 dX8_home_7 ?_
  refine lv_bipush (v := 7) K.1 K.2.1 dX8_home_10 (by decide) ?_
  refine lM_1 K hw (vi_7 (by decide)) cl_7 dX8_home_12 ?_
  refine lv_iconst (v := 3) K.1 K.2.1 dX8_home_13 (by decide) ?_
  refine lv_imul K.1 K.2.1 dX8_home_14 ?_
  refine lv_iconst (v := 4) K.1 K.2.1 dX8_home_15 (by decide) ?_
  refine lv_idiv K.1 K.2.1 dX8_home_16 (by decide) ?_
  refine lv_iadd K.1 K.2.1 dX8_home_17 ?_
  exact ret rfl (by exact rfl) hw dX8_home_18
def f_X8_defaults (σ0 : PS) : PS := let s1 : PS := f_X8_measure σ0; let s46 : PS := f_X8_setX (upA (upA (upA (upA s1 0 4 3600) 0 5 ((s1.1 8) - 7200)) 0 2 0) 0 3 (s1.1 7)) 0; let s55 : PS := f_X8_setY s46 (Int32.toInt64 (f_X8_home s46)); s55
theorem bm_X8_defaults {σ0 : PS} (hI : Bm σ0) : Bm (f_X8_defaults σ0) := (bm_X8_setY (bm_X8_setX (bmT (bmT (bmT (bmT (bm_X8_measure hI) (by decide) (by decide)) (by decide) (by decide)) (by decide) (by decide)) (by decide) (by decide))))
theorem pm_X8_defaults {n : Int} {σ0 : PS} (hP : Pm n σ0) : Pm (n) (f_X8_defaults σ0) := (pm_X8_setY (pm_X8_setX (pm_X8_measure hP)))
abbrev rm_X8_defaults : Room := { frames := 2, cells := 0, slots := 0, locals := 44 }
set_option maxHeartbeats 4000000 in
set_option maxRecDepth 100000 in
theorem c_X8_defaults (l : Launch) (D : va_G) (a : Nat → Nat) (cA : Nat → ClassId) (σ0 : PS) : CV l yX8_defaults cX8_defaults 1 rm_X8_defaults D (mdT cA) [.ref (a 0)] (mdW a cA σ0) (mdW a cA (f_X8_defaults σ0)) := by
  refine en_v (by decide +kernel) (Nat.le_of_ble_eq_true rfl) ?_
  intro p e s m args below meth c A ls Q K hw hl ret
  have hl : lv_has ls 1 [(0, .ref (a 0))] := hl
  refine lv_aload_n K.1 K.2.1 dX8_defaults_0 rfl (lv_at hl 0 rfl) ?_
  refine caV K hw (c_X8_measure l D a cA _) hl.1 (tt_V km_X8_74 kI_X8_measure ks_X8_measure ki_X8 kC_X8_measure) 0 (ci := 8) rfl rfl rfl (na := 0) rfl (by decide +kernel) ⟨rfl, rfl⟩ (by decide) ⟨Nat.zero_le _, Nat.zero_le _⟩ rfl (Nat.le_of_ble_eq_true rfl) dX8_defaults_1 (fun H locs hw => ?_)
  obtain ⟨s1, es1, hw⟩ := nmM hw
  refine lv_aload_n K.1 K.2.1 dX8_defaults_4 rfl (lv_at hl 0 rfl) ?_
  refine gM_0_1 K hw kf_X8_7 dX8_defaults_5 ?_
  refine lv_iconst (v := 4) K.1 K.2.1 dX8_defaults_8 (by decide) ?_
  refine lv_sipush (v := 3600) K.1 K.2.1 dX8_defaults_9 (by decide) ?_
  refine sM_1 K hw (vi_4 (by decide)) cl_4 dX8_defaults_12 (fun H locs hw => ?_)
  refine lv_aload_n K.1 K.2.1 dX8_defaults_13 rfl (lv_at hl 0 rfl) ?_
  refine gM_0_1 K hw kf_X8_7 dX8_defaults_14 ?_
  refine lv_iconst (v := 5) K.1 K.2.1 dX8_defaults_17 (by decide) ?_
  refine lv_aload_n K.1 K.2.1 dX8_defaults_18 rfl (lv_at hl 0 rfl) ?_
  refine gM_0_8 K hw kf_X8_67 dX8_defaults_19 ?_
  refine lv_sipush (v := 7200) K.1 K.2.1 dX8_defaults_22 (by decide) ?_
  refine lv_isub K.1 K.2.1 dX8_defaults_25 ?_
  refine sM_1 K hw (vi_5 (by decide)) cl_5 dX8_defaults_26 (fun H locs hw => ?_)
  refine lv_aload_n K.1 K.2.1 dX8_defaults_27 rfl (lv_at hl 0 rfl) ?_
  refine gM_0_1 K hw kf_X8_7 dX8_defaults_28 ?_
  refine lv_iconst (v := 2) K.1 K.2.1 dX8_defaults_31 (by decide) ?_
  refine lv_iconst (v := 0) K.1 K.2.1 dX8_defaults_32 (by decide) ?_
  refine sM_1 K hw (vi_2 (by decide)) cl_2 dX8_defaults_33 (fun H locs hw => ?_)
  refine lv_aload_n K.1 K.2.1 dX8_defaults_34 rfl (lv_at hl 0 rfl) ?_
  refine gM_0_1 K hw kf_X8_7 dX8_defaults_35 ?_
  refine lv_iconst (v := 3) K.1 K.2.1 dX8_defaults_38 (by decide) ?_
  refine lv_aload_n K.1 K.2.1 dX8_defaults_39 rfl (lv_at hl 0 rfl) ?_
  refine gM_0_7 K hw kf_X8_64 dX8_defaults_40 ?_
  refine sM_1 K hw (vi_3 (by decide)) cl_3 dX8_defaults_43 (fun H locs hw => ?_)
  refine lv_aload_n K.1 K.2.1 dX8_defaults_44 rfl (lv_at hl 0 rfl) ?_
  refine lv_lconst (v := 0) K.1 K.2.1 dX8_defaults_45 (by decide) ?_
  refine caV K hw (c_X8_setX l D a cA _ _) hl.1 (tt_V km_X8_77 kI_X8_setX ks_X8_setX ki_X8 kC_X8_setX) 0 (ci := 8) rfl rfl rfl (na := 1) rfl (by decide +kernel) ⟨rfl, rfl⟩ (by decide) ⟨Nat.zero_le _, Nat.zero_le _⟩ rfl (Nat.le_of_ble_eq_true rfl) dX8_defaults_46 (fun H locs hw => ?_)
  obtain ⟨s46, es46, hw⟩ := nmM hw
  refine lv_aload_n K.1 K.2.1 dX8_defaults_49 rfl (lv_at hl 0 rfl) ?_
  refine lv_aload_n K.1 K.2.1 dX8_defaults_50 rfl (lv_at hl 0 rfl) ?_
  refine caI K hw (c_X8_home l D a cA _) hl.1 (tt_V km_X8_81 kI_X8_home ks_X8_home ki_X8 kC_X8_home) 0 (ci := 8) rfl rfl rfl (na := 0) rfl (by decide +kernel) ⟨rfl, rfl⟩ (by decide) ⟨Nat.zero_le _, Nat.zero_le _⟩ rfl (Nat.le_of_ble_eq_true rfl) dX8_defaults_51 (fun H locs hw => ?_)
  refine lv_i2l K.1 K.2.1 dX8_defaults_54 rfl ?_
  refine caV K hw (c_X8_setY l D a cA _ _) hl.1 (tt_V km_X8_85 kI_X8_setY ks_X8_setY ki_X8 kC_X8_setY) 0 (ci := 8) rfl rfl rfl (na := 1) rfl (by decide +kernel) ⟨rfl, rfl⟩ (by decide) ⟨Nat.zero_le _, Nat.zero_le _⟩ rfl (Nat.le_of_ble_eq_true rfl) dX8_defaults_55 (fun H locs hw => ?_)
  obtain ⟨s55, es55, hw⟩ := nmM hw
  exact ret (congrArg (mdW a cA) (by subst es55 es46 es1; exact rfl)) hw dX8_defaults_58
def g_X8_reset_2 : Nat → PS → Int32 → PS
  | 0, σ, y1 => σ
  | n + 1, σ, y1 => (if 53 ≤ y1 then let s57 : PS := f_X8_defaults (upA (upA (upS (upS (upS σ 4 2) 5 0) 6 1) 0 6 720) 0 7 1200); s57 else let x1_15 : Int32 := y1 + 1; (g_X8_reset_2 n (upA σ 0 (Int32.toNatClampNeg y1) 0) x1_15))
def f_X8_reset (σ0 : PS) : PS := (g_X8_reset_2 54 σ0 0)
theorem bm_g_X8_reset_2 {n : Nat} {σ : PS} {y1 : Int32} (hI : Bm σ) : Bm (g_X8_reset_2 n σ y1) := by
  induction n generalizing σ y1 with
  | zero => exact hI
  | succ n ih => exact (bxI (fun c5 => (bm_X8_defaults (bmT (bmT (bmS_6 (bmS_5 (bmS_4 hI))) (by decide) (by decide)) (by decide) (by decide)))) (fun c5 => (ih (bmT0 hI))))
theorem bm_X8_reset {σ0 : PS} (hI : Bm σ0) : Bm (f_X8_reset σ0) := (bm_g_X8_reset_2 hI)
theorem pm_g_X8_reset_2 {n : Int} {k9 : Nat} {σ : PS} {y1 : Int32} (hP : Pm n σ) : Pm n (g_X8_reset_2 k9 σ y1) := by
  induction k9 generalizing σ y1 with
  | zero => exact hP
  | succ k9 ih => exact (bxI (fun c5 => (pm_X8_defaults hP)) (fun c5 => (ih hP)))
theorem pm_X8_reset {n : Int} {σ0 : PS} (hP : Pm n σ0) : Pm (n) (f_X8_reset σ0) := (pm_g_X8_reset_2 hP)
abbrev rm_X8_reset : Room := { frames := 3, cells := 0, slots := 0, locals := 64 }
set_option maxHeartbeats 4000000 in
set_option maxRecDepth 100000 in
theorem c_X8_reset (l : Launch) (D : va_G) (a : Nat → Nat) (cA : Nat → ClassId) (σ0 : PS) : CV l yX8_reset cX8_reset 2 rm_X8_reset D (mdT cA) [.ref (a 0)] (mdW a cA σ0) (mdW a cA (f_X8_reset σ0)) := by
  refine en_v (by decide +kernel) (Nat.le_of_ble_eq_true rfl) ?_
  intro p e s m args below meth c A ls Q K hw hl ret
  have hl : lv_has ls 2 [(0, .ref (a 0))] := hl
  have J2 : ∀ (n : Nat) (σ : PS) (y1 : Int32) (H : Heap) (locs : List Loc) (ls : Array Slot), WD D A s.heap (mdW a cA σ) H locs → lv_has ls 2 [(0, .ref (a 0)), (1, .int y1)] → (0 ≤ y1.toInt ∧ y1.toInt ≤ 53 ∧ 53 - y1.toInt < (n : Int)) → f_X8_reset σ0 = g_X8_reset_2 n σ y1 → W p l e rm_X8_reset s m args below meth c H locs 0 0 Q (F0 m 2 ls []) := by
    intro n
    induction n with
    | zero =>
      intro σ y1 H locs ls hw hl hv e0
      exact absurd hv (by omega)
    | succ n ih =>
      intro σ y1 H locs ls hw hl hv e0
      refine lv_iload_n K.1 K.2.1 dX8_reset_2 rfl (lv_at hl 1 rfl) ?_
      refine lv_bipush (v := 53) K.1 K.2.1 dX8_reset_3 (by decide) ?_
      refine lv_icmp_ge (tgt := 21) K.1 K.2.1 dX8_reset_5 (by decide) (fun c5 => ?_) (fun c5 => ?_)
      · refine lv_aload_n K.1 K.2.1 dX8_reset_21 rfl (lv_at hl 0 rfl) ?_
        refine lv_iconst (v := 2) K.1 K.2.1 dX8_reset_22 (by decide) ?_
        refine pM_0_4 K hw kf_X8_54 dX8_reset_23 (fun H locs hw => ?_)
        refine lv_aload_n K.1 K.2.1 dX8_reset_26 rfl (lv_at hl 0 rfl) ?_
        refine lv_iconst (v := 0) K.1 K.2.1 dX8_reset_27 (by decide) ?_
        refine pM_0_5 K hw kf_X8_51 dX8_reset_28 (fun H locs hw => ?_)
        refine lv_aload_n K.1 K.2.1 dX8_reset_31 rfl (lv_at hl 0 rfl) ?_
        refine lv_iconst (v := 1) K.1 K.2.1 dX8_reset_32 (by decide) ?_
        refine pM_0_6 K hw kf_X8_88 dX8_reset_33 (fun H locs hw => ?_)
        refine lv_aload_n K.1 K.2.1 dX8_reset_36 rfl (lv_at hl 0 rfl) ?_
        refine gM_0_1 K hw kf_X8_7 dX8_reset_37 ?_
        refine lv_bipush (v := 6) K.1 K.2.1 dX8_reset_40 (by decide) ?_
        refine lv_sipush (v := 720) K.1 K.2.1 dX8_reset_42 (by decide) ?_
        refine sM_1 K hw (vi_6 (by decide)) cl_6 dX8_reset_45 (fun H locs hw => ?_)
        refine lv_aload_n K.1 K.2.1 dX8_reset_46 rfl (lv_at hl 0 rfl) ?_
        refine gM_0_1 K hw kf_X8_7 dX8_reset_47 ?_
        refine lv_bipush (v := 7) K.1 K.2.1 dX8_reset_50 (by decide) ?_
        refine lv_sipush (v := 1200) K.1 K.2.1 dX8_reset_52 (by decide) ?_
        refine sM_1 K hw (vi_7 (by decide)) cl_7 dX8_reset_55 (fun H locs hw => ?_)
        refine lv_aload_n K.1 K.2.1 dX8_reset_56 rfl (lv_at hl 0 rfl) ?_
        refine caV K hw (c_X8_defaults l D a cA _) hl.1 (tt_V km_X8_91 kI_X8_defaults ks_X8_defaults ki_X8 kC_X8_defaults) 0 (ci := 8) rfl rfl rfl (na := 0) rfl (by decide +kernel) ⟨rfl, rfl⟩ (by decide) ⟨Nat.zero_le _, Nat.zero_le _⟩ rfl (Nat.le_of_ble_eq_true rfl) dX8_reset_57 (fun H locs hw => ?_)
        obtain ⟨s57, es57, hw⟩ := nmM hw
        exact ret (congrArg (mdW a cA) (by subst es57; exact (Eq.trans e0 (Eq.trans (if_pos c5) rfl)))) hw dX8_reset_60
      · refine lv_aload_n K.1 K.2.1 dX8_reset_8 rfl (lv_at hl 0 rfl) ?_
        refine gM_0_1 K hw kf_X8_7 dX8_reset_9 ?_
        refine lv_iload_n K.1 K.2.1 dX8_reset_12 rfl (lv_at hl 1 rfl) ?_
        refine lv_iconst (v := 0) K.1 K.2.1 dX8_reset_13 (by decide) ?_
        refine sM_1 K hw (ixUp hv.1 c5 (b := 53) rfl (by decide)) rfl dX8_reset_14 (fun H locs hw => ?_)
        obtain ⟨x1_15, ex1_15⟩ : ∃ z9 : Int32, z9 = y1 + 1 := ⟨_, rfl⟩
        refine lv_iinc (v := x1_15) (lv' := [(1, .int x1_15), (0, .ref (a 0))]) K.1 K.2.1 dX8_reset_15 hl (k := 1) rfl (by rw [ex1_15]; rfl) (by decide) rfl (fun ls hl => ?_)
        refine lv_goto (tgt := 2) K.1 K.2.1 dX8_reset_18 (by decide) ?_
        exact ih _ _ _ _ _ hw (lv_sub hl [1, 0] rfl) (stepUp hv c5 ex1_15 rfl (by decide)) (by subst ex1_15; exact (Eq.trans e0 (Eq.trans (if_neg c5) rfl)))
  refine lv_iconst (v := 0) K.1 K.2.1 dX8_reset_0 (by decide) ?_
  refine lv_istore_n (lv' := [(1, .int 0), (0, .ref (a 0))]) K.1 K.2.1 dX8_reset_1 rfl hl (by decide) rfl (fun ls hl => ?_)
  exact J2 54 _ _ _ _ _ hw (lv_sub hl [1, 0] rfl) (by decide) (by exact rfl)
def f_X8_eject (σ0 : PS) : PS := let x1_9 : Int32 := (4 * ((σ0.1 27) - (σ0.1 27) / 40 * 40)); let s87 : PS := f_X8_setY (upS (upS (upS (upS (upA (upA (upA (upA σ0 5 (Int32.toNatClampNeg x1_9) (σ0.1 24)) 5 (Int32.toNatClampNeg (x1_9 + 1)) (σ0.1 4)) 5 (Int32.toNatClampNeg (x1_9 + 2)) (σ0.1 5)) 5 (Int32.toNatClampNeg (x1_9 + 3)) (σ0.1 6)) 27 ((σ0.1 27) + 1)) 23 0) 24 0) 25 0) (Int32.toInt64 (f_X8_home (upS (upS (upS (upS (upA (upA (upA (upA σ0 5 (Int32.toNatClampNeg x1_9) (σ0.1 24)) 5 (Int32.toNatClampNeg (x1_9 + 1)) (σ0.1 4)) 5 (Int32.toNatClampNeg (x1_9 + 2)) (σ0.1 5)) 5 (Int32.toNatClampNeg (x1_9 + 3)) (σ0.1 6)) 27 ((σ0.1 27) + 1)) 23 0) 24 0) 25 0))); s87
theorem bm_X8_eject {σ0 : PS} (hI : Bm σ0) : Bm (f_X8_eject σ0) := (bm_X8_setY (bmQ_25 (bmS_24 (bmQ_23 (bmS_27 (bmA (by decide) (bmA (by decide) (bmA (by decide) (bmA (by decide) hI))))) (by decide) (by decide))) (by decide) (by decide)))
theorem pm_X8_eject {n : Int} {σ0 : PS} (hP : Pm n σ0) (hn : n ≤ 2147483646) : Pm (n + 1) (f_X8_eject σ0) := (pm_X8_setY (pm_up hP hn))
abbrev rm_X8_eject : Room := { frames := 2, cells := 0, slots := 0, locals := 44 }
set_option maxHeartbeats 4000000 in
set_option maxRecDepth 100000 in
theorem c_X8_eject (l : Launch) (D : va_G) (a : Nat → Nat) (cA : Nat → ClassId) (σ0 : PS) (hp : 0 ≤ (σ0.1 27).toInt) : CV l yX8_eject cX8_eject 2 rm_X8_eject D (mdT cA) [.ref (a 0)] (mdW a cA σ0) (mdW a cA (f_X8_eject σ0)) := by
  refine en_v (by decide +kernel) (Nat.le_of_ble_eq_true rfl) ?_
  intro p e s m args below meth c A ls Q K hw hl ret
  have hl : lv_has ls 2 [(0, .ref (a 0))] := hl
  refine lv_iconst (v := 4) K.1 K.2.1 dX8_eject_0 (by decide) ?_
  refine lv_aload_n K.1 K.2.1 dX8_eject_1 rfl (lv_at hl 0 rfl) ?_
  refine gM_0_27 K hw kf_X8_94 dX8_eject_2 ?_
  refine lv_bipush (v := 40) K.1 K.2.1 dX8_eject_5 (by decide) ?_
  refine lv_irem K.1 K.2.1 dX8_eject_7 (by decide) ?_
  refine lv_imul K.1 K.2.1 dX8_eject_8 ?_
  refine lv_topi (fun x1_9 ex1_9 => ?_)
  refine lv_istore_n (lv' := [(1, .int x1_9), (0, .ref (a 0))]) K.1 K.2.1 dX8_eject_9 rfl hl (by decide) rfl (fun ls hl => ?_)
  refine lv_aload_n K.1 K.2.1 dX8_eject_10 rfl (lv_at hl 1 rfl) ?_
  refine gM_0_28 K hw kf_X8_26 dX8_eject_11 ?_
  refine lv_iload_n K.1 K.2.1 dX8_eject_14 rfl (lv_at hl 0 rfl) ?_
  refine lv_aload_n K.1 K.2.1 dX8_eject_15 rfl (lv_at hl 1 rfl) ?_
  refine gM_0_24 K hw kf_X8_97 dX8_eject_16 ?_
  refine sM_6 K hw (by rw [ex1_9]; exact pgI0 hp) rfl dX8_eject_19 (fun H locs hw => ?_)
  refine lv_aload_n K.1 K.2.1 dX8_eject_20 rfl (lv_at hl 1 rfl) ?_
  refine gM_0_28 K hw kf_X8_26 dX8_eject_21 ?_
  refine lv_iload_n K.1 K.2.1 dX8_eject_24 rfl (lv_at hl 0 rfl) ?_
  refine lv_iconst (v := 1) K.1 K.2.1 dX8_eject_25 (by decide) ?_
  refine lv_iadd K.1 K.2.1 dX8_eject_26 ?_
  refine lv_aload_n K.1 K.2.1 dX8_eject_27 rfl (lv_at hl 1 rfl) ?_
  refine gM_0_4 K hw kf_X8_54 dX8_eject_28 ?_
  refine sM_6 K hw (by rw [ex1_9]; exact pgI hp (by decide)) rfl dX8_eject_31 (fun H locs hw => ?_)
  refine lv_aload_n K.1 K.2.1 dX8_eject_32 rfl (lv_at hl 1 rfl) ?_
  refine gM_0_28 K hw kf_X8_26 dX8_eject_33 ?_
  refine lv_iload_n K.1 K.2.1 dX8_eject_36 rfl (lv_at hl 0 rfl) ?_
  refine lv_iconst (v := 2) K.1 K.2.1 dX8_eject_37 (by decide) ?_
  refine lv_iadd K.1 K.2.1 dX8_eject_38 ?_
  refine lv_aload_n K.1 K.2.1 dX8_eject_39 rfl (lv_at hl 1 rfl) ?_
  refine gM_0_5 K hw kf_X8_51 dX8_eject_40 ?_
  refine sM_6 K hw (by rw [ex1_9]; exact pgI hp (by decide)) rfl dX8_eject_43 (fun H locs hw => ?_)
  refine lv_aload_n K.1 K.2.1 dX8_eject_44 rfl (lv_at hl 1 rfl) ?_
  refine gM_0_28 K hw kf_X8_26 dX8_eject_45 ?_
  refine lv_iload_n K.1 K.2.1 dX8_eject_48 rfl (lv_at hl 0 rfl) ?_
  refine lv_iconst (v := 3) K.1 K.2.1 dX8_eject_49 (by decide) ?_
  refine lv_iadd K.1 K.2.1 dX8_eject_50 ?_
  refine lv_aload_n K.1 K.2.1 dX8_eject_51 rfl (lv_at hl 1 rfl) ?_
  refine gM_0_6 K hw kf_X8_88 dX8_eject_52 ?_
  refine sM_6 K hw (by rw [ex1_9]; exact pgI hp (by decide)) rfl dX8_eject_55 (fun H locs hw => ?_)
  refine lv_aload_n K.1 K.2.1 dX8_eject_56 rfl (lv_at hl 1 rfl) ?_
  refine lv_dup K.1 K.2.1 dX8_eject_57 rfl ?_
  refine gM_0_27 K hw kf_X8_94 dX8_eject_58 ?_
  refine lv_iconst (v := 1) K.1 K.2.1 dX8_eject_61 (by decide) ?_
  refine lv_iadd K.1 K.2.1 dX8_eject_62 ?_
  refine pM_0_27 K hw kf_X8_94 dX8_eject_63 (fun H locs hw => ?_)
  refine lv_aload_n K.1 K.2.1 dX8_eject_66 rfl (lv_at hl 1 rfl) ?_
  refine lv_iconst (v := 0) K.1 K.2.1 dX8_eject_67 (by decide) ?_
  refine pM_0_23 K hw kf_X8_100 dX8_eject_68 (fun H locs hw => ?_)
  refine lv_aload_n K.1 K.2.1 dX8_eject_71 rfl (lv_at hl 1 rfl) ?_
  refine lv_iconst (v := 0) K.1 K.2.1 dX8_eject_72 (by decide) ?_
  refine pM_0_24 K hw kf_X8_97 dX8_eject_73 (fun H locs hw => ?_)
  refine lv_aload_n K.1 K.2.1 dX8_eject_76 rfl (lv_at hl 1 rfl) ?_
  refine lv_iconst (v := 0) K.1 K.2.1 dX8_eject_77 (by decide) ?_
  refine pM_0_25 K hw rfl rfl kf_X8_103 dX8_eject_78 (fun H locs hw => ?_)
  refine lv_aload_n K.1 K.2.1 dX8_eject_81 rfl (lv_at hl 1 rfl) ?_
  refine lv_aload_n K.1 K.2.1 dX8_eject_82 rfl (lv_at hl 1 rfl) ?_
  refine caI K hw (c_X8_home l D a cA _) hl.1 (tt_V km_X8_81 kI_X8_home ks_X8_home ki_X8 kC_X8_home) 0 (ci := 8) rfl rfl rfl (na := 0) rfl (by decide +kernel) ⟨rfl, rfl⟩ (by decide) ⟨Nat.zero_le _, Nat.zero_le _⟩ rfl (Nat.le_of_ble_eq_true rfl) dX8_eject_83 (fun H locs hw => ?_)
  refine lv_i2l K.1 K.2.1 dX8_eject_86 rfl ?_
  refine caV K hw (c_X8_setY l D a cA _ _) hl.1 (tt_V km_X8_85 kI_X8_setY ks_X8_setY ki_X8 kC_X8_setY) 0 (ci := 8) rfl rfl rfl (na := 1) rfl (by decide +kernel) ⟨rfl, rfl⟩ (by decide) ⟨Nat.zero_le _, Nat.zero_le _⟩ rfl (Nat.le_of_ble_eq_true rfl) dX8_eject_87 (fun H locs hw => ?_)
  obtain ⟨s87, es87, hw⟩ := nmM hw
  exact ret (congrArg (mdW a cA) (by subst es87 ex1_9; exact rfl)) hw dX8_eject_90
def f_X8_ejectIfDue (σ0 : PS) : PS := (if 0 < (σ0.1 24) then let s15 : PS := f_X8_eject σ0; s15 else (if (σ0.1 25) = 0 then σ0 else let s15 : PS := f_X8_eject σ0; s15))
theorem bm_X8_ejectIfDue {σ0 : PS} (hI : Bm σ0) : Bm (f_X8_ejectIfDue σ0) := (bxI (fun c4 => (bm_X8_eject hI)) (fun c4 => (bxI (fun c11 => hI) (fun c11 => (bm_X8_eject hI)))))
theorem pm_X8_ejectIfDue {n : Int} {σ0 : PS} (hP : Pm n σ0) (hn : n ≤ 2147483646) : Pm (n + 1) (f_X8_ejectIfDue σ0) := (bxI (fun c4 => (pm_X8_eject hP hn)) (fun c4 => (bxI (fun c11 => (pm_w hP)) (fun c11 => (pm_X8_eject hP hn)))))
abbrev rm_X8_ejectIfDue : Room := { frames := 3, cells := 0, slots := 0, locals := 65 }
set_option maxHeartbeats 4000000 in
set_option maxRecDepth 100000 in
theorem c_X8_ejectIfDue (l : Launch) (D : va_G) (a : Nat → Nat) (cA : Nat → ClassId) (σ0 : PS) (hp : 0 ≤ (σ0.1 27).toInt) : CV l yX8_ejectIfDue cX8_ejectIfDue 1 rm_X8_ejectIfDue D (mdT cA) [.ref (a 0)] (mdW a cA σ0) (mdW a cA (f_X8_ejectIfDue σ0)) := by
  refine en_v (by decide +kernel) (Nat.le_of_ble_eq_true rfl) ?_
  intro p e s m args below meth c A ls Q K hw hl ret
  have hl : lv_has ls 1 [(0, .ref (a 0))] := hl
  refine lv_aload_n K.1 K.2.1 dX8_ejectIfDue_0 rfl (lv_at hl 0 rfl) ?_
  refine gM_0_24 K hw kf_X8_97 dX8_ejectIfDue_1 ?_
  refine lv_if_gt (tgt := 14) K.1 K.2.1 dX8_ejectIfDue_4 (by decide) (fun c4 => ?_) (fun c4 => ?_)
  · refine lv_aload_n K.1 K.2.1 dX8_ejectIfDue_14 rfl (lv_at hl 0 rfl) ?_
    refine caV K hw (c_X8_eject l D a cA _ hp) hl.1 (tt_V km_X8_107 kI_X8_eject ks_X8_eject ki_X8 kC_X8_eject) 0 (ci := 8) rfl rfl rfl (na := 0) rfl (by decide +kernel) ⟨rfl, rfl⟩ (by decide) ⟨Nat.zero_le _, Nat.zero_le _⟩ rfl (Nat.le_of_ble_eq_true rfl) dX8_ejectIfDue_15 (fun H locs hw => ?_)
    obtain ⟨s15, es15, hw⟩ := nmM hw
    exact ret (congrArg (mdW a cA) (by subst es15; exact (Eq.trans (if_pos c4) rfl))) hw dX8_ejectIfDue_18
  · refine lv_aload_n K.1 K.2.1 dX8_ejectIfDue_7 rfl (lv_at hl 0 rfl) ?_
    refine gM_0_25 K hw kf_X8_103 dX8_ejectIfDue_8 ?_
    refine lv_if_eq (tgt := 18) K.1 K.2.1 dX8_ejectIfDue_11 (by decide) (fun c11 => ?_) (fun c11 => ?_)
    · exact ret (congrArg (mdW a cA) (by exact (Eq.trans (if_neg c4) (Eq.trans (if_pos c11) rfl)))) hw dX8_ejectIfDue_18
    · refine lv_aload_n K.1 K.2.1 dX8_ejectIfDue_14 rfl (lv_at hl 0 rfl) ?_
      refine caV K hw (c_X8_eject l D a cA _ hp) hl.1 (tt_V km_X8_107 kI_X8_eject ks_X8_eject ki_X8 kC_X8_eject) 0 (ci := 8) rfl rfl rfl (na := 0) rfl (by decide +kernel) ⟨rfl, rfl⟩ (by decide) ⟨Nat.zero_le _, Nat.zero_le _⟩ rfl (Nat.le_of_ble_eq_true rfl) dX8_ejectIfDue_15 (fun H locs hw => ?_)
      obtain ⟨s15, es15, hw⟩ := nmM hw
      exact ret (congrArg (mdW a cA) (by subst es15; exact (Eq.trans (if_neg c4) (Eq.trans (if_neg c11) rfl)))) hw dX8_ejectIfDue_18
def f_X8_lineFeed (σ0 : PS) (x1 : Int32) : PS := let x2_10 : Int64 := ((Int32.toInt64 (σ0.2.1 0 1)) + (Int32.toInt64 x1)); (if (Int32.toInt64 (σ0.1 8)) < x2_10 then let s53 : PS := f_X8_eject σ0; s53 else (if (σ0.2.1 0 9) = 1 then (if x2_10 ≤ ((Int32.toInt64 (σ0.2.1 0 4)) + (Int32.toInt64 (σ0.2.1 0 5))) then let s61 : PS := f_X8_setY σ0 x2_10; s61 else let s53 : PS := f_X8_eject σ0; s53) else let s61 : PS := f_X8_setY σ0 x2_10; s61))
theorem bm_X8_lineFeed {σ0 : PS} {x1 : Int32} (hI : Bm σ0) : Bm (f_X8_lineFeed σ0 x1) := (bxI (fun c17 => (bm_X8_eject hI)) (fun c17 => (bxI (fun c29 => (bxI (fun c48 => (bm_X8_setY hI)) (fun c48 => (bm_X8_eject hI)))) (fun c29 => (bm_X8_setY hI)))))
theorem pm_X8_lineFeed {n : Int} {σ0 : PS} {x1 : Int32} (hP : Pm n σ0) (hn : n ≤ 2147483646) : Pm (n + 1) (f_X8_lineFeed σ0 x1) := (bxI (fun c17 => (pm_X8_eject hP hn)) (fun c17 => (bxI (fun c29 => (bxI (fun c48 => (pm_w (pm_X8_setY hP))) (fun c48 => (pm_X8_eject hP hn)))) (fun c29 => (pm_w (pm_X8_setY hP))))))
abbrev rm_X8_lineFeed : Room := { frames := 3, cells := 0, slots := 0, locals := 65 }
set_option maxHeartbeats 4000000 in
set_option maxRecDepth 100000 in
theorem c_X8_lineFeed (l : Launch) (D : va_G) (a : Nat → Nat) (cA : Nat → ClassId) (σ0 : PS) (x1 : Int32) (hp : 0 ≤ (σ0.1 27).toInt) : CV l yX8_lineFeed cX8_lineFeed 4 rm_X8_lineFeed D (mdT cA) [.ref (a 0), .int x1] (mdW a cA σ0) (mdW a cA (f_X8_lineFeed σ0 x1)) := by
  refine en_v (by decide +kernel) (Nat.le_of_ble_eq_true rfl) ?_
  intro p e s m args below meth c A ls Q K hw hl ret
  have hl : lv_has ls 4 [(0, .ref (a 0)), (1, .int x1)] := hl
  refine lv_aload_n K.1 K.2.1 dX8_lineFeed_0 rfl (lv_at hl 0 rfl) ?_
  refine gM_0_1 K hw kf_X8_7 dX8_lineFeed_1 ?_
  refine lv_iconst (v := 1) K.1 K.2.1 dX8_lineFeed_4 (by decide) ?_
  refine lM_1 K hw (vi_1 (by decide)) cl_1 dX8_lineFeed_5 ?_
  refine lv_i2l K.1 K.2.1 dX8_lineFeed_6 rfl ?_
  refine lv_iload_n K.1 K.2.1 dX8_lineFeed_7 rfl (lv_at hl 1 rfl) ?_
  refine lv_i2l K.1 K.2.1 dX8_lineFeed_8 rfl ?_
  refine lv_ladd K.1 K.2.1 dX8_lineFeed_9 ?_
  refine lv_topl (fun x2_10 ex2_10 => ?_)
  refine lv_lstore_n (lv' := [(2, .long x2_10), (0, .ref (a 0)), (1, .int x1)]) K.1 K.2.1 dX8_lineFeed_10 rfl hl (by decide) rfl (fun ls hl => ?_)
  refine lv_lload_n K.1 K.2.1 dX8_lineFeed_11 rfl (lv_at hl 0 rfl) ?_
  refine lv_aload_n K.1 K.2.1 dX8_lineFeed_12 rfl (lv_at hl 1 rfl) ?_
  refine gM_0_8 K hw kf_X8_67 dX8_lineFeed_13 ?_
  refine lv_i2l K.1 K.2.1 dX8_lineFeed_16 rfl ?_
  refine lc_gt (tgt := 52) K dX8_lineFeed_17 dX8_lineFeed_18 (by decide) (fun c17 => ?_) (fun c17 => ?_)
  · refine lv_aload_n K.1 K.2.1 dX8_lineFeed_52 rfl (lv_at hl 1 rfl) ?_
    refine caV K hw (c_X8_eject l D a cA _ hp) hl.1 (tt_V km_X8_107 kI_X8_eject ks_X8_eject ki_X8 kC_X8_eject) 0 (ci := 8) rfl rfl rfl (na := 0) rfl (by decide +kernel) ⟨rfl, rfl⟩ (by decide) ⟨Nat.zero_le _, Nat.zero_le _⟩ rfl (Nat.le_of_ble_eq_true rfl) dX8_lineFeed_53 (fun H locs hw => ?_)
    obtain ⟨s53, es53, hw⟩ := nmM hw
    refine lv_goto (tgt := 64) K.1 K.2.1 dX8_lineFeed_56 (by decide) ?_
    exact ret (congrArg (mdW a cA) (by subst es53 ex2_10; exact (Eq.trans (if_pos c17) rfl))) hw dX8_lineFeed_64
  · refine lv_aload_n K.1 K.2.1 dX8_lineFeed_21 rfl (lv_at hl 1 rfl) ?_
    refine gM_0_1 K hw kf_X8_7 dX8_lineFeed_22 ?_
    refine lv_bipush (v := 9) K.1 K.2.1 dX8_lineFeed_25 (by decide) ?_
    refine lM_1 K hw (vi_9 (by decide)) cl_9 dX8_lineFeed_27 ?_
    refine lv_iconst (v := 1) K.1 K.2.1 dX8_lineFeed_28 (by decide) ?_
    refine lv_icmp_ne (tgt := 59) K.1 K.2.1 dX8_lineFeed_29 (by decide) (fun c29 => ?_) (fun c29 => ?_)
    · refine lv_aload_n K.1 K.2.1 dX8_lineFeed_59 rfl (lv_at hl 1 rfl) ?_
      refine lv_lload_n K.1 K.2.1 dX8_lineFeed_60 rfl (lv_at hl 0 rfl) ?_
      refine caV K hw (c_X8_setY l D a cA _ _) hl.1 (tt_V km_X8_85 kI_X8_setY ks_X8_setY ki_X8 kC_X8_setY) 0 (ci := 8) rfl rfl rfl (na := 1) rfl (by decide +kernel) ⟨rfl, rfl⟩ (by decide) ⟨Nat.zero_le _, Nat.zero_le _⟩ rfl (Nat.le_of_ble_eq_true rfl) dX8_lineFeed_61 (fun H locs hw => ?_)
      obtain ⟨s61, es61, hw⟩ := nmM hw
      have hp61 : 0 ≤ (s61.1 27).toInt := by rw [es61]; exact (pm_X8_setY ⟨hp, Int.le_refl _⟩).1
      exact ret (congrArg (mdW a cA) (by subst es61 ex2_10; exact (Eq.trans (if_neg c17) (Eq.trans (if_neg c29) rfl)))) hw dX8_lineFeed_64
    · refine lv_lload_n K.1 K.2.1 dX8_lineFeed_32 rfl (lv_at hl 0 rfl) ?_
      refine lv_aload_n K.1 K.2.1 dX8_lineFeed_33 rfl (lv_at hl 1 rfl) ?_
      refine gM_0_1 K hw kf_X8_7 dX8_lineFeed_34 ?_
      refine lv_iconst (v := 4) K.1 K.2.1 dX8_lineFeed_37 (by decide) ?_
      refine lM_1 K hw (vi_4 (by decide)) cl_4 dX8_lineFeed_38 ?_
      refine lv_i2l K.1 K.2.1 dX8_lineFeed_39 rfl ?_
      refine lv_aload_n K.1 K.2.1 dX8_lineFeed_40 rfl (lv_at hl 1 rfl) ?_
      refine gM_0_1 K hw kf_X8_7 dX8_lineFeed_41 ?_
      refine lv_iconst (v := 5) K.1 K.2.1 dX8_lineFeed_44 (by decide) ?_
      refine lM_1 K hw (vi_5 (by decide)) cl_5 dX8_lineFeed_45 ?_
      refine lv_i2l K.1 K.2.1 dX8_lineFeed_46 rfl ?_
      refine lv_ladd K.1 K.2.1 dX8_lineFeed_47 ?_
      refine lc_le (tgt := 59) K dX8_lineFeed_48 dX8_lineFeed_49 (by decide) (fun c48 => ?_) (fun c48 => ?_)
      · refine lv_aload_n K.1 K.2.1 dX8_lineFeed_59 rfl (lv_at hl 1 rfl) ?_
        refine lv_lload_n K.1 K.2.1 dX8_lineFeed_60 rfl (lv_at hl 0 rfl) ?_
        refine caV K hw (c_X8_setY l D a cA _ _) hl.1 (tt_V km_X8_85 kI_X8_setY ks_X8_setY ki_X8 kC_X8_setY) 0 (ci := 8) rfl rfl rfl (na := 1) rfl (by decide +kernel) ⟨rfl, rfl⟩ (by decide) ⟨Nat.zero_le _, Nat.zero_le _⟩ rfl (Nat.le_of_ble_eq_true rfl) dX8_lineFeed_61 (fun H locs hw => ?_)
        obtain ⟨s61, es61, hw⟩ := nmM hw
        have hp61 : 0 ≤ (s61.1 27).toInt := by rw [es61]; exact (pm_X8_setY ⟨hp, Int.le_refl _⟩).1
        exact ret (congrArg (mdW a cA) (by subst es61 ex2_10; exact (Eq.trans (if_neg c17) (Eq.trans (if_pos c29) (Eq.trans (if_pos c48) rfl))))) hw dX8_lineFeed_64
      · refine lv_aload_n K.1 K.2.1 dX8_lineFeed_52 rfl (lv_at hl 1 rfl) ?_
        refine caV K hw (c_X8_eject l D a cA _ hp) hl.1 (tt_V km_X8_107 kI_X8_eject ks_X8_eject ki_X8 kC_X8_eject) 0 (ci := 8) rfl rfl rfl (na := 0) rfl (by decide +kernel) ⟨rfl, rfl⟩ (by decide) ⟨Nat.zero_le _, Nat.zero_le _⟩ rfl (Nat.le_of_ble_eq_true rfl) dX8_lineFeed_53 (fun H locs hw => ?_)
        obtain ⟨s53, es53, hw⟩ := nmM hw
        refine lv_goto (tgt := 64) K.1 K.2.1 dX8_lineFeed_56 (by decide) ?_
        exact ret (congrArg (mdW a cA) (by subst es53 ex2_10; exact (Eq.trans (if_neg c17) (Eq.trans (if_pos c29) (Eq.trans (if_neg c48) rfl))))) hw dX8_lineFeed_64
def f_X8_carriageReturn (σ0 : PS) : PS := let s8 : PS := f_X8_setX σ0 (Int32.toInt64 (σ0.2.1 0 2)); s8
theorem bm_X8_carriageReturn {σ0 : PS} (hI : Bm σ0) : Bm (f_X8_carriageReturn σ0) := (bm_X8_setX hI)
theorem pm_X8_carriageReturn {n : Int} {σ0 : PS} (hP : Pm n σ0) : Pm (n) (f_X8_carriageReturn σ0) := (pm_X8_setX hP)
abbrev rm_X8_carriageReturn : Room := { frames := 2, cells := 0, slots := 0, locals := 44 }
set_option maxHeartbeats 4000000 in
set_option maxRecDepth 100000 in
theorem c_X8_carriageReturn (l : Launch) (D : va_G) (a : Nat → Nat) (cA : Nat → ClassId) (σ0 : PS) : CV l yX8_carriageReturn cX8_carriageReturn 1 rm_X8_carriageReturn D (mdT cA) [.ref (a 0)] (mdW a cA σ0) (mdW a cA (f_X8_carriageReturn σ0)) := by
  refine en_v (by decide +kernel) (Nat.le_of_ble_eq_true rfl) ?_
  intro p e s m args below meth c A ls Q K hw hl ret
  have hl : lv_has ls 1 [(0, .ref (a 0))] := hl
  refine lv_aload_n K.1 K.2.1 dX8_carriageReturn_0 rfl (lv_at hl 0 rfl) ?_
  refine lv_aload_n K.1 K.2.1 dX8_carriageReturn_1 rfl (lv_at hl 0 rfl) ?_
  refine gM_0_1 K hw kf_X8_7 dX8_carriageReturn_2 ?_
  refine lv_iconst (v := 2) K.1 K.2.1 dX8_carriageReturn_5 (by decide) ?_
  refine lM_1 K hw (vi_2 (by decide)) cl_2 dX8_carriageReturn_6 ?_
  refine lv_i2l K.1 K.2.1 dX8_carriageReturn_7 rfl ?_
  refine caV K hw (c_X8_setX l D a cA _ _) hl.1 (tt_V km_X8_77 kI_X8_setX ks_X8_setX ki_X8 kC_X8_setX) 0 (ci := 8) rfl rfl rfl (na := 1) rfl (by decide +kernel) ⟨rfl, rfl⟩ (by decide) ⟨Nat.zero_le _, Nat.zero_le _⟩ rfl (Nat.le_of_ble_eq_true rfl) dX8_carriageReturn_8 (fun H locs hw => ?_)
  obtain ⟨s8, es8, hw⟩ := nmM hw
  exact ret (congrArg (mdW a cA) (by subst es8; exact rfl)) hw dX8_carriageReturn_11
def g_X8_character_203 (σ : PS) (y3 : Int32) : PS := let s214 : PS := f_X8_setX σ ((Int32.toInt64 (σ.2.1 0 0)) + (Int32.toInt64 y3)); s214
def g_X8_character_193 (σ : PS) (y3 : Int32) : PS := (g_X8_character_203 (upS σ 24 ((σ.1 24) + 1)) y3)
def g_X8_character_97 (σ : PS) (y1 : Int32) (y3 : Int32) : PS := (if y1 = 32 then (g_X8_character_203 σ y3) else (if 6000 ≤ (σ.1 23) then (g_X8_character_193 σ y3) else (g_X8_character_193 (upS (upA (upA (upA (upA σ 4 (Int32.toNatClampNeg (4 * (σ.1 23))) (σ.2.1 0 0)) 4 (Int32.toNatClampNeg ((4 * (σ.1 23)) + 1)) (σ.2.1 0 1)) 4 (Int32.toNatClampNeg ((4 * (σ.1 23)) + 2)) y1) 4 (Int32.toNatClampNeg ((4 * (σ.1 23)) + 3)) (σ.2.1 0 11)) 23 ((σ.1 23) + 1)) y3)))
def g_X8_character_71 (σ : PS) (y1 : Int32) (y3 : Int32) : PS := (if (σ.2.1 0 8) = 0 then σ else let s83 : PS := f_X8_carriageReturn σ; let s94 : PS := f_X8_lineFeed s83 (s83.2.1 0 7); (g_X8_character_97 s94 y1 y3))
def g_X8_character_34 (σ : PS) (y1 : Int32) (k0 : Int32) : PS := (if (σ.2.1 0 3) ≤ (σ.2.1 0 0) then (g_X8_character_71 σ y1 k0) else (if ((Int32.toInt64 (σ.2.1 0 0)) + (Int32.toInt64 k0)) ≤ (Int32.toInt64 (σ.2.1 0 3)) then (g_X8_character_97 σ y1 k0) else (g_X8_character_71 σ y1 k0)))
def f_X8_character (σ0 : PS) (x1 : Int32) : PS := let x2_18 : Int32 := (σ0.2.1 3 (Int32.toNatClampNeg ((256 * (σ0.2.1 0 11)) + x1))); (if 0 ≤ x2_18 then (g_X8_character_34 σ0 x1 x2_18) else (g_X8_character_34 σ0 x1 (σ0.2.1 0 6)))
theorem bm_g_X8_character_203 {σ : PS} {y3 : Int32} (hI : Bm σ) : Bm (g_X8_character_203 σ y3) := (bm_X8_setX hI)
theorem bm_g_X8_character_193 {σ : PS} {y3 : Int32} (hI : Bm σ) : Bm (g_X8_character_193 σ y3) := (bm_g_X8_character_203 (bmS_24 hI))
theorem bm_g_X8_character_97 {σ : PS} {y1 : Int32} {y3 : Int32} (hI : Bm σ) : Bm (g_X8_character_97 σ y1 y3) := (bxI (fun c100 => (bm_g_X8_character_203 hI)) (fun c100 => (bxI (fun c110 => (bm_g_X8_character_193 hI)) (fun c110 => (bm_g_X8_character_193 (bmQ_23 (bmA (by decide) (bmA (by decide) (bmA (by decide) (bmA (by decide) hI)))) (inc1 (bmg_23 (σ := σ) hI).1 c110 rfl (by decide)).1 (inc1 (bmg_23 (σ := σ) hI).1 c110 rfl (by decide)).2))))))
theorem bm_g_X8_character_71 {σ : PS} {y1 : Int32} {y3 : Int32} (hI : Bm σ) : Bm (g_X8_character_71 σ y1 y3) := (bxI (fun c78 => hI) (fun c78 => (bm_g_X8_character_97 (bm_X8_lineFeed (bm_X8_carriageReturn hI)))))
theorem bm_g_X8_character_34 {σ : PS} {y1 : Int32} {k0 : Int32} (hI : Bm σ) : Bm (g_X8_character_34 σ y1 k0) := (bxI (fun c47 => (bm_g_X8_character_71 hI)) (fun c47 => (bxI (fun c67 => (bm_g_X8_character_97 hI)) (fun c67 => (bm_g_X8_character_71 hI)))))
theorem bm_X8_character {σ0 : PS} {x1 : Int32} (hI : Bm σ0) : Bm (f_X8_character σ0 x1) := (bxI (fun c20 => (bm_g_X8_character_34 hI)) (fun c20 => (bm_g_X8_character_34 hI)))
theorem pm_g_X8_character_203 {n : Int} {σ : PS} {y3 : Int32} (hP : Pm n σ) : Pm (n) (g_X8_character_203 σ y3) := (pm_X8_setX hP)
theorem pm_g_X8_character_193 {n : Int} {σ : PS} {y3 : Int32} (hP : Pm n σ) : Pm (n) (g_X8_character_193 σ y3) := (pm_g_X8_character_203 hP)
theorem pm_g_X8_character_97 {n : Int} {σ : PS} {y1 : Int32} {y3 : Int32} (hP : Pm n σ) : Pm (n) (g_X8_character_97 σ y1 y3) := (bxI (fun c100 => (pm_g_X8_character_203 hP)) (fun c100 => (bxI (fun c110 => (pm_g_X8_character_193 hP)) (fun c110 => (pm_g_X8_character_193 hP)))))
theorem pm_g_X8_character_71 {n : Int} {σ : PS} {y1 : Int32} {y3 : Int32} (hP : Pm n σ) (hn : n ≤ 2147483646) : Pm (n + 1) (g_X8_character_71 σ y1 y3) := (bxI (fun c78 => (pm_w hP)) (fun c78 => (pm_g_X8_character_97 (pm_X8_lineFeed (pm_X8_carriageReturn hP) hn))))
theorem pm_g_X8_character_34 {n : Int} {σ : PS} {y1 : Int32} {k0 : Int32} (hP : Pm n σ) (hn : n ≤ 2147483646) : Pm (n + 1) (g_X8_character_34 σ y1 k0) := (bxI (fun c47 => (pm_g_X8_character_71 hP hn)) (fun c47 => (bxI (fun c67 => (pm_w (pm_g_X8_character_97 hP))) (fun c67 => (pm_g_X8_character_71 hP hn)))))
theorem pm_X8_character {n : Int} {σ0 : PS} {x1 : Int32} (hP : Pm n σ0) (hn : n ≤ 2147483646) : Pm (n + 1) (f_X8_character σ0 x1) := (bxI (fun c20 => (pm_g_X8_character_34 hP hn)) (fun c20 => (pm_g_X8_character_34 hP hn)))
abbrev rm_X8_character : Room := { frames := 4, cells := 0, slots := 0, locals := 88 }
set_option maxHeartbeats 4000000 in
set_option maxRecDepth 100000 in
theorem c_X8_character (l : Launch) (D : va_G) (a : Nat → Nat) (cA : Nat → ClassId) (σ0 : PS) (x1 : Int32) (hI : Bm σ0) (hp : 0 ≤ (σ0.1 27).toInt) (hb : 0 ≤ x1.toInt ∧ x1.toInt ≤ 255) : CV l yX8_character cX8_character 4 rm_X8_character D (mdT cA) [.ref (a 0), .int x1] (mdW a cA σ0) (mdW a cA (f_X8_character σ0 x1)) := by
  refine en_v (by decide +kernel) (Nat.le_of_ble_eq_true rfl) ?_
  intro p e s m args below meth c A ls Q K hw hl ret
  have hl : lv_has ls 4 [(0, .ref (a 0)), (1, .int x1)] := hl
  have J203 : ∀ (σ : PS) (y3 : Int32) (H : Heap) (locs : List Loc) (ls : Array Slot), WD D A s.heap (mdW a cA σ) H locs → lv_has ls 4 [(0, .ref (a 0)), (3, .int y3)] → Bm σ → f_X8_character σ0 x1 = g_X8_character_203 σ y3 → W p l e rm_X8_character s m args below meth c H locs 0 0 Q (F0 m 203 ls []) := by
    intro σ y3 H locs ls hw hl hI e0
    refine lv_aload_n K.1 K.2.1 dX8_character_203 rfl (lv_at hl 0 rfl) ?_
    refine lv_aload_n K.1 K.2.1 dX8_character_204 rfl (lv_at hl 0 rfl) ?_
    refine gM_0_1 K hw kf_X8_7 dX8_character_205 ?_
    refine lv_iconst (v := 0) K.1 K.2.1 dX8_character_208 (by decide) ?_
    refine lM_1 K hw (vi_0 (by decide)) cl_0 dX8_character_209 ?_
    refine lv_i2l K.1 K.2.1 dX8_character_210 rfl ?_
    refine lv_iload_n K.1 K.2.1 dX8_character_211 rfl (lv_at hl 1 rfl) ?_
    refine lv_i2l K.1 K.2.1 dX8_character_212 rfl ?_
    refine lv_ladd K.1 K.2.1 dX8_character_213 ?_
    refine caV K hw (c_X8_setX l D a cA _ _) hl.1 (tt_V km_X8_77 kI_X8_setX ks_X8_setX ki_X8 kC_X8_setX) 0 (ci := 8) rfl rfl rfl (na := 1) rfl (by decide +kernel) ⟨rfl, rfl⟩ (by decide) ⟨Nat.zero_le _, Nat.zero_le _⟩ rfl (Nat.le_of_ble_eq_true rfl) dX8_character_214 (fun H locs hw => ?_)
    obtain ⟨s214, es214, hw⟩ := nmM hw
    have hI214 : Bm s214 := by rw [es214]; exact bm_X8_setX hI
    exact ret (congrArg (mdW a cA) (by subst es214; exact (Eq.trans e0 rfl))) hw dX8_character_217
  have J193 : ∀ (σ : PS) (y3 : Int32) (H : Heap) (locs : List Loc) (ls : Array Slot), WD D A s.heap (mdW a cA σ) H locs → lv_has ls 4 [(0, .ref (a 0)), (3, .int y3)] → Bm σ → f_X8_character σ0 x1 = g_X8_character_193 σ y3 → W p l e rm_X8_character s m args below meth c H locs 0 0 Q (F0 m 193 ls []) := by
    intro σ y3 H locs ls hw hl hI e0
    refine lv_aload_n K.1 K.2.1 dX8_character_193 rfl (lv_at hl 0 rfl) ?_
    refine lv_dup K.1 K.2.1 dX8_character_194 rfl ?_
    refine gM_0_24 K hw kf_X8_97 dX8_character_195 ?_
    refine lv_iconst (v := 1) K.1 K.2.1 dX8_character_198 (by decide) ?_
    refine lv_iadd K.1 K.2.1 dX8_character_199 ?_
    refine pM_0_24 K hw kf_X8_97 dX8_character_200 (fun H locs hw => ?_)
    exact J203 _ _ _ _ _ hw (lv_sub hl [0, 1] rfl) (bmS_24 hI) (by exact (Eq.trans e0 rfl))
  have J97 : ∀ (σ : PS) (y1 : Int32) (y3 : Int32) (H : Heap) (locs : List Loc) (ls : Array Slot), WD D A s.heap (mdW a cA σ) H locs → lv_has ls 4 [(0, .ref (a 0)), (1, .int y1), (3, .int y3)] → Bm σ → f_X8_character σ0 x1 = g_X8_character_97 σ y1 y3 → W p l e rm_X8_character s m args below meth c H locs 0 0 Q (F0 m 97 ls []) := by
    intro σ y1 y3 H locs ls hw hl hI e0
    refine lv_iload_n K.1 K.2.1 dX8_character_97 rfl (lv_at hl 1 rfl) ?_
    refine lv_bipush (v := 32) K.1 K.2.1 dX8_character_98 (by decide) ?_
    refine lv_icmp_eq (tgt := 203) K.1 K.2.1 dX8_character_100 (by decide) (fun c100 => ?_) (fun c100 => ?_)
    · exact J203 _ _ _ _ _ hw (lv_sub hl [0, 2] rfl) hI (by exact (Eq.trans e0 (Eq.trans (if_pos c100) rfl)))
    · refine lv_aload_n K.1 K.2.1 dX8_character_103 rfl (lv_at hl 0 rfl) ?_
      refine gM_0_23 K hw kf_X8_100 dX8_character_104 ?_
      refine lv_sipush (v := 6000) K.1 K.2.1 dX8_character_107 (by decide) ?_
      refine lv_icmp_ge (tgt := 193) K.1 K.2.1 dX8_character_110 (by decide) (fun c110 => ?_) (fun c110 => ?_)
      · exact J193 _ _ _ _ _ hw (lv_sub hl [0, 2] rfl) hI (by exact (Eq.trans e0 (Eq.trans (if_neg c100) (Eq.trans (if_pos c110) rfl))))
      · refine lv_aload_n K.1 K.2.1 dX8_character_113 rfl (lv_at hl 0 rfl) ?_
        refine gM_0_26 K hw kf_X8_23 dX8_character_114 ?_
        refine lv_iconst (v := 4) K.1 K.2.1 dX8_character_117 (by decide) ?_
        refine lv_aload_n K.1 K.2.1 dX8_character_118 rfl (lv_at hl 0 rfl) ?_
        refine gM_0_23 K hw kf_X8_100 dX8_character_119 ?_
        refine lv_imul K.1 K.2.1 dX8_character_122 ?_
        refine lv_aload_n K.1 K.2.1 dX8_character_123 rfl (lv_at hl 0 rfl) ?_
        refine gM_0_1 K hw kf_X8_7 dX8_character_124 ?_
        refine lv_iconst (v := 0) K.1 K.2.1 dX8_character_127 (by decide) ?_
        refine lM_1 K hw (vi_0 (by decide)) cl_0 dX8_character_128 ?_
        refine sM_5 K hw (vGl (bmg_23 (σ := σ) hI).1 c110) rfl dX8_character_129 (fun H locs hw => ?_)
        refine lv_aload_n K.1 K.2.1 dX8_character_130 rfl (lv_at hl 0 rfl) ?_
        refine gM_0_26 K hw kf_X8_23 dX8_character_131 ?_
        refine lv_iconst (v := 4) K.1 K.2.1 dX8_character_134 (by decide) ?_
        refine lv_aload_n K.1 K.2.1 dX8_character_135 rfl (lv_at hl 0 rfl) ?_
        refine gM_0_23 K hw kf_X8_100 dX8_character_136 ?_
        refine lv_imul K.1 K.2.1 dX8_character_139 ?_
        refine lv_iconst (v := 1) K.1 K.2.1 dX8_character_140 (by decide) ?_
        refine lv_iadd K.1 K.2.1 dX8_character_141 ?_
        refine lv_aload_n K.1 K.2.1 dX8_character_142 rfl (lv_at hl 0 rfl) ?_
        refine gM_0_1 K hw kf_X8_7 dX8_character_143 ?_
        refine lv_iconst (v := 1) K.1 K.2.1 dX8_character_146 (by decide) ?_
        refine lM_1 K hw (vi_1 (by decide)) cl_1 dX8_character_147 ?_
        refine sM_5 K hw (vGlk (bmg_23 (σ := σ) hI).1 c110 (by decide)) rfl dX8_character_148 (fun H locs hw => ?_)
        refine lv_aload_n K.1 K.2.1 dX8_character_149 rfl (lv_at hl 0 rfl) ?_
        refine gM_0_26 K hw kf_X8_23 dX8_character_150 ?_
        refine lv_iconst (v := 4) K.1 K.2.1 dX8_character_153 (by decide) ?_
        refine lv_aload_n K.1 K.2.1 dX8_character_154 rfl (lv_at hl 0 rfl) ?_
        refine gM_0_23 K hw kf_X8_100 dX8_character_155 ?_
        refine lv_imul K.1 K.2.1 dX8_character_158 ?_
        refine lv_iconst (v := 2) K.1 K.2.1 dX8_character_159 (by decide) ?_
        refine lv_iadd K.1 K.2.1 dX8_character_160 ?_
        refine lv_iload_n K.1 K.2.1 dX8_character_161 rfl (lv_at hl 1 rfl) ?_
        refine sM_5 K hw (vGlk (bmg_23 (σ := σ) hI).1 c110 (by decide)) rfl dX8_character_162 (fun H locs hw => ?_)
        refine lv_aload_n K.1 K.2.1 dX8_character_163 rfl (lv_at hl 0 rfl) ?_
        refine gM_0_26 K hw kf_X8_23 dX8_character_164 ?_
        refine lv_iconst (v := 4) K.1 K.2.1 dX8_character_167 (by decide) ?_
        refine lv_aload_n K.1 K.2.1 dX8_character_168 rfl (lv_at hl 0 rfl) ?_
        refine gM_0_23 K hw kf_X8_100 dX8_character_169 ?_
        refine lv_imul K.1 K.2.1 dX8_character_172 ?_
        refine lv_iconst (v := 3) K.1 K.2.1 dX8_character_173 (by decide) ?_
        refine lv_iadd K.1 K.2.1 dX8_character_174 ?_
        refine lv_aload_n K.1 K.2.1 dX8_character_175 rfl (lv_at hl 0 rfl) ?_
        refine gM_0_1 K hw kf_X8_7 dX8_character_176 ?_
        refine lv_bipush (v := 11) K.1 K.2.1 dX8_character_179 (by decide) ?_
        refine lM_1 K hw (vi_11 (by decide)) cl_11 dX8_character_181 ?_
        refine sM_5 K hw (vGlk (bmg_23 (σ := σ) hI).1 c110 (by decide)) rfl dX8_character_182 (fun H locs hw => ?_)
        refine lv_aload_n K.1 K.2.1 dX8_character_183 rfl (lv_at hl 0 rfl) ?_
        refine lv_dup K.1 K.2.1 dX8_character_184 rfl ?_
        refine gM_0_23 K hw kf_X8_100 dX8_character_185 ?_
        refine lv_iconst (v := 1) K.1 K.2.1 dX8_character_188 (by decide) ?_
        refine lv_iadd K.1 K.2.1 dX8_character_189 ?_
        refine pM_0_23 K hw kf_X8_100 dX8_character_190 (fun H locs hw => ?_)
        exact J193 _ _ _ _ _ hw (lv_sub hl [0, 2] rfl) (bmQ_23 (bmA (by decide) (bmA (by decide) (bmA (by decide) (bmA (by decide) hI)))) (inc1 (bmg_23 (σ := σ) hI).1 c110 rfl (by decide)).1 (inc1 (bmg_23 (σ := σ) hI).1 c110 rfl (by decide)).2) (by exact (Eq.trans e0 (Eq.trans (if_neg c100) (Eq.trans (if_neg c110) rfl))))
  have J71 : ∀ (σ : PS) (y1 : Int32) (y3 : Int32) (H : Heap) (locs : List Loc) (ls : Array Slot), WD D A s.heap (mdW a cA σ) H locs → lv_has ls 4 [(0, .ref (a 0)), (1, .int y1), (3, .int y3)] → Bm σ → 0 ≤ (σ.1 27).toInt → f_X8_character σ0 x1 = g_X8_character_71 σ y1 y3 → W p l e rm_X8_character s m args below meth c H locs 0 0 Q (F0 m 71 ls []) := by
    intro σ y1 y3 H locs ls hw hl hI hp e0
    refine lv_aload_n K.1 K.2.1 dX8_character_71 rfl (lv_at hl 0 rfl) ?_
    refine gM_0_1 K hw kf_X8_7 dX8_character_72 ?_
    refine lv_bipush (v := 8) K.1 K.2.1 dX8_character_75 (by decide) ?_
    refine lM_1 K hw (vi_8 (by decide)) cl_8 dX8_character_77 ?_
    refine lv_if_ne (tgt := 82) K.1 K.2.1 dX8_character_78 (by decide) (fun c78 => ?_) (fun c78 => ?_)
    · refine lv_aload_n K.1 K.2.1 dX8_character_82 rfl (lv_at hl 0 rfl) ?_
      refine caV K hw (c_X8_carriageReturn l D a cA _) hl.1 (tt_V km_X8_110 kI_X8_carriageReturn ks_X8_carriageReturn ki_X8 kC_X8_carriageReturn) 0 (ci := 8) rfl rfl rfl (na := 0) rfl (by decide +kernel) ⟨rfl, rfl⟩ (by decide) ⟨Nat.zero_le _, Nat.zero_le _⟩ rfl (Nat.le_of_ble_eq_true rfl) dX8_character_83 (fun H locs hw => ?_)
      obtain ⟨s83, es83, hw⟩ := nmM hw
      have hI83 : Bm s83 := by rw [es83]; exact bm_X8_carriageReturn hI
      have hp83 : 0 ≤ (s83.1 27).toInt := by rw [es83]; exact (pm_X8_carriageReturn ⟨hp, Int.le_refl _⟩).1
      refine lv_aload_n K.1 K.2.1 dX8_character_86 rfl (lv_at hl 0 rfl) ?_
      refine lv_aload_n K.1 K.2.1 dX8_character_87 rfl (lv_at hl 0 rfl) ?_
      refine gM_0_1 K hw kf_X8_7 dX8_character_88 ?_
      refine lv_bipush (v := 7) K.1 K.2.1 dX8_character_91 (by decide) ?_
      refine lM_1 K hw (vi_7 (by decide)) cl_7 dX8_character_93 ?_
      refine caV K hw (c_X8_lineFeed l D a cA _ _ hp83) hl.1 (tt_V km_X8_113 kI_X8_lineFeed ks_X8_lineFeed ki_X8 kC_X8_lineFeed) 0 (ci := 8) rfl rfl rfl (na := 1) rfl (by decide +kernel) ⟨rfl, rfl⟩ (by decide) ⟨Nat.zero_le _, Nat.zero_le _⟩ rfl (Nat.le_of_ble_eq_true rfl) dX8_character_94 (fun H locs hw => ?_)
      obtain ⟨s94, es94, hw⟩ := nmM hw
      have hI94 : Bm s94 := by rw [es94]; exact bm_X8_lineFeed hI83
      exact J97 _ _ _ _ _ _ hw (lv_sub hl [0, 1, 2] rfl) hI94 (by subst es94 es83; exact (Eq.trans e0 (Eq.trans (if_neg c78) rfl)))
    · exact ret (congrArg (mdW a cA) (by exact (Eq.trans e0 (Eq.trans (if_pos c78) rfl)))) hw dX8_character_81
  have J34 : ∀ (σ : PS) (y1 : Int32) (k0 : Int32) (H : Heap) (locs : List Loc) (ls : Array Slot), WD D A s.heap (mdW a cA σ) H locs → lv_has ls 4 [(0, .ref (a 0)), (1, .int y1)] → Bm σ → 0 ≤ (σ.1 27).toInt → f_X8_character σ0 x1 = g_X8_character_34 σ y1 k0 → W p l e rm_X8_character s m args below meth c H locs 0 0 Q (F0 m 34 ls [.int k0]) := by
    intro σ y1 k0 H locs ls hw hl hI hp e0
    refine lv_istore_n (lv' := [(3, .int k0), (0, .ref (a 0)), (1, .int y1)]) K.1 K.2.1 dX8_character_34 rfl hl (by decide) rfl (fun ls hl => ?_)
    refine lv_aload_n K.1 K.2.1 dX8_character_35 rfl (lv_at hl 1 rfl) ?_
    refine gM_0_1 K hw kf_X8_7 dX8_character_36 ?_
    refine lv_iconst (v := 0) K.1 K.2.1 dX8_character_39 (by decide) ?_
    refine lM_1 K hw (vi_0 (by decide)) cl_0 dX8_character_40 ?_
    refine lv_aload_n K.1 K.2.1 dX8_character_41 rfl (lv_at hl 1 rfl) ?_
    refine gM_0_1 K hw kf_X8_7 dX8_character_42 ?_
    refine lv_iconst (v := 3) K.1 K.2.1 dX8_character_45 (by decide) ?_
    refine lM_1 K hw (vi_3 (by decide)) cl_3 dX8_character_46 ?_
    refine lv_icmp_ge (tgt := 71) K.1 K.2.1 dX8_character_47 (by decide) (fun c47 => ?_) (fun c47 => ?_)
    · exact J71 _ _ _ _ _ _ hw (lv_sub hl [1, 2, 0] rfl) hI hp (by exact (Eq.trans e0 (Eq.trans (if_pos c47) rfl)))
    · refine lv_aload_n K.1 K.2.1 dX8_character_50 rfl (lv_at hl 1 rfl) ?_
      refine gM_0_1 K hw kf_X8_7 dX8_character_51 ?_
      refine lv_iconst (v := 0) K.1 K.2.1 dX8_character_54 (by decide) ?_
      refine lM_1 K hw (vi_0 (by decide)) cl_0 dX8_character_55 ?_
      refine lv_i2l K.1 K.2.1 dX8_character_56 rfl ?_
      refine lv_iload_n K.1 K.2.1 dX8_character_57 rfl (lv_at hl 0 rfl) ?_
      refine lv_i2l K.1 K.2.1 dX8_character_58 rfl ?_
      refine lv_ladd K.1 K.2.1 dX8_character_59 ?_
      refine lv_aload_n K.1 K.2.1 dX8_character_60 rfl (lv_at hl 1 rfl) ?_
      refine gM_0_1 K hw kf_X8_7 dX8_character_61 ?_
      refine lv_iconst (v := 3) K.1 K.2.1 dX8_character_64 (by decide) ?_
      refine lM_1 K hw (vi_3 (by decide)) cl_3 dX8_character_65 ?_
      refine lv_i2l K.1 K.2.1 dX8_character_66 rfl ?_
      refine lc_le (tgt := 97) K dX8_character_67 dX8_character_68 (by decide) (fun c67 => ?_) (fun c67 => ?_)
      · exact J97 _ _ _ _ _ _ hw (lv_sub hl [1, 2, 0] rfl) hI (by exact (Eq.trans e0 (Eq.trans (if_neg c47) (Eq.trans (if_pos c67) rfl))))
      · exact J71 _ _ _ _ _ _ hw (lv_sub hl [1, 2, 0] rfl) hI hp (by exact (Eq.trans e0 (Eq.trans (if_neg c47) (Eq.trans (if_neg c67) rfl))))
  refine lv_aload_n K.1 K.2.1 dX8_character_0 rfl (lv_at hl 0 rfl) ?_
  refine gM_0_9 K hw kf_X8_20 dX8_character_1 ?_
  refine lv_sipush (v := 256) K.1 K.2.1 dX8_character_4 (by decide) ?_
  refine lv_aload_n K.1 K.2.1 dX8_character_7 rfl (lv_at hl 0 rfl) ?_
  refine gM_0_1 K hw kf_X8_7 dX8_character_8 ?_
  refine lv_bipush (v := 11) K.1 K.2.1 dX8_character_11 (by decide) ?_
  refine lM_1 K hw (vi_11 (by decide)) cl_11 dX8_character_13 ?_
  refine lv_imul K.1 K.2.1 dX8_character_14 ?_
  refine lv_iload_n K.1 K.2.1 dX8_character_15 rfl (lv_at hl 1 rfl) ?_
  refine lv_iadd K.1 K.2.1 dX8_character_16 ?_
  refine lM_4 K hw (vStep (bmt_11 (σ := σ0) hI) hb) rfl dX8_character_17 ?_
  refine lv_topi (fun x2_18 ex2_18 => ?_)
  refine lv_istore_n (lv' := [(2, .int x2_18), (0, .ref (a 0)), (1, .int x1)]) K.1 K.2.1 dX8_character_18 rfl hl (by decide) rfl (fun ls hl => ?_)
  refine lv_iload_n K.1 K.2.1 dX8_character_19 rfl (lv_at hl 0 rfl) ?_
  refine lv_if_ge (tgt := 33) K.1 K.2.1 dX8_character_20 (by decide) (fun c20 => ?_) (fun c20 => ?_)
  · refine lv_iload_n K.1 K.2.1 dX8_character_33 rfl (lv_at hl 0 rfl) ?_
    exact J34 _ _ _ _ _ _ hw (lv_sub hl [1, 2] rfl) hI hp (by subst ex2_18; exact (Eq.trans (if_pos c20) rfl))
  · refine lv_aload_n K.1 K.2.1 dX8_character_23 rfl (lv_at hl 1 rfl) ?_
    refine gM_0_1 K hw kf_X8_7 dX8_character_24 ?_
    refine lv_bipush (v := 6) K.1 K.2.1 dX8_character_27 (by decide) ?_
    refine lM_1 K hw (vi_6 (by decide)) cl_6 dX8_character_29 ?_
    refine lv_goto (tgt := 34) K.1 K.2.1 dX8_character_30 (by decide) ?_
    exact J34 _ _ _ _ _ _ hw (lv_sub hl [1, 2] rfl) hI hp (by subst ex2_18; exact (Eq.trans (if_neg c20) rfl))
def f_X8_tab (σ0 : PS) : PS := (if (σ0.2.1 0 2) ≤ (σ0.2.1 0 0) then (if (σ0.2.1 0 6) ≤ 0 then σ0 else let x1_51 : Int64 := (8 * (Int32.toInt64 (σ0.2.1 0 6))); let x3_80 : Int64 := ((Int32.toInt64 (σ0.2.1 0 2)) + ((((Int32.toInt64 ((σ0.2.1 0 0) - (σ0.2.1 0 2))) / x1_51) + 1) * x1_51)); (if (Int32.toInt64 (σ0.2.1 0 3)) ≤ x3_80 then let s105 : PS := f_X8_setX σ0 (Int32.toInt64 (σ0.2.1 0 3)); s105 else let s105 : PS := f_X8_setX σ0 x3_80; s105)) else let s23 : PS := f_X8_setX σ0 (Int32.toInt64 (σ0.2.1 0 2)); s23)
theorem bm_X8_tab {σ0 : PS} (hI : Bm σ0) : Bm (f_X8_tab σ0) := (bxI (fun c12 => (bxI (fun c36 => hI) (fun c36 => (bxI (fun c90 => (bm_X8_setX hI)) (fun c90 => (bm_X8_setX hI)))))) (fun c12 => (bm_X8_setX hI)))
theorem pm_X8_tab {n : Int} {σ0 : PS} (hP : Pm n σ0) : Pm (n) (f_X8_tab σ0) := (bxI (fun c12 => (bxI (fun c36 => hP) (fun c36 => (bxI (fun c90 => (pm_X8_setX hP)) (fun c90 => (pm_X8_setX hP)))))) (fun c12 => (pm_X8_setX hP)))
abbrev rm_X8_tab : Room := { frames := 2, cells := 0, slots := 0, locals := 44 }
set_option maxHeartbeats 4000000 in
set_option maxRecDepth 100000 in
theorem c_X8_tab (l : Launch) (D : va_G) (a : Nat → Nat) (cA : Nat → ClassId) (σ0 : PS) : CV l yX8_tab cX8_tab 5 rm_X8_tab D (mdT cA) [.ref (a 0)] (mdW a cA σ0) (mdW a cA (f_X8_tab σ0)) := by
  refine en_v (by decide +kernel) (Nat.le_of_ble_eq_true rfl) ?_
  intro p e s m args below meth c A ls Q K hw hl ret
  have hl : lv_has ls 5 [(0, .ref (a 0))] := hl
  refine lv_aload_n K.1 K.2.1 dX8_tab_0 rfl (lv_at hl 0 rfl) ?_
  refine gM_0_1 K hw kf_X8_7 dX8_tab_1 ?_
  refine lv_iconst (v := 0) K.1 K.2.1 dX8_tab_4 (by decide) ?_
  refine lM_1 K hw (vi_0 (by decide)) cl_0 dX8_tab_5 ?_
  refine lv_aload_n K.1 K.2.1 dX8_tab_6 rfl (lv_at hl 0 rfl) ?_
  refine gM_0_1 K hw kf_X8_7 dX8_tab_7 ?_
  refine lv_iconst (v := 2) K.1 K.2.1 dX8_tab_10 (by decide) ?_
  refine lM_1 K hw (vi_2 (by decide)) cl_2 dX8_tab_11 ?_
  refine lv_icmp_ge (tgt := 29) K.1 K.2.1 dX8_tab_12 (by decide) (fun c12 => ?_) (fun c12 => ?_)
  · refine lv_aload_n K.1 K.2.1 dX8_tab_29 rfl (lv_at hl 0 rfl) ?_
    refine gM_0_1 K hw kf_X8_7 dX8_tab_30 ?_
    refine lv_bipush (v := 6) K.1 K.2.1 dX8_tab_33 (by decide) ?_
    refine lM_1 K hw (vi_6 (by decide)) cl_6 dX8_tab_35 ?_
    refine lv_if_le (tgt := 108) K.1 K.2.1 dX8_tab_36 (by decide) (fun c36 => ?_) (fun c36 => ?_)
    · exact ret (congrArg (mdW a cA) (by exact (Eq.trans (if_pos c12) (Eq.trans (if_pos c36) rfl)))) hw dX8_tab_108
    · refine lv_ldc2 K.1 K.2.1 K.2.2.2.1 (K.2.2.1 _ kc_X8_117) dX8_tab_39 ?_
      refine lv_aload_n K.1 K.2.1 dX8_tab_42 rfl (lv_at hl 0 rfl) ?_
      refine gM_0_1 K hw kf_X8_7 dX8_tab_43 ?_
      refine lv_bipush (v := 6) K.1 K.2.1 dX8_tab_46 (by decide) ?_
      refine lM_1 K hw (vi_6 (by decide)) cl_6 dX8_tab_48 ?_
      refine lv_i2l K.1 K.2.1 dX8_tab_49 rfl ?_
      refine lv_lmul K.1 K.2.1 dX8_tab_50 ?_
      refine lv_topl (fun x1_51 ex1_51 => ?_)
      refine lv_lstore_n (lv' := [(1, .long x1_51), (0, .ref (a 0))]) K.1 K.2.1 dX8_tab_51 rfl hl (by decide) rfl (fun ls hl => ?_)
      refine lv_aload_n K.1 K.2.1 dX8_tab_52 rfl (lv_at hl 1 rfl) ?_
      refine gM_0_1 K hw kf_X8_7 dX8_tab_53 ?_
      refine lv_iconst (v := 2) K.1 K.2.1 dX8_tab_56 (by decide) ?_
      refine lM_1 K hw (vi_2 (by decide)) cl_2 dX8_tab_57 ?_
      refine lv_i2l K.1 K.2.1 dX8_tab_58 rfl ?_
      refine lv_aload_n K.1 K.2.1 dX8_tab_59 rfl (lv_at hl 1 rfl) ?_
      refine gM_0_1 K hw kf_X8_7 dX8_tab_60 ?_
      refine lv_iconst (v := 0) K.1 K.2.1 dX8_tab_63 (by decide) ?_
      refine lM_1 K hw (vi_0 (by decide)) cl_0 dX8_tab_64 ?_
      refine lv_aload_n K.1 K.2.1 dX8_tab_65 rfl (lv_at hl 1 rfl) ?_
      refine gM_0_1 K hw kf_X8_7 dX8_tab_66 ?_
      refine lv_iconst (v := 2) K.1 K.2.1 dX8_tab_69 (by decide) ?_
      refine lM_1 K hw (vi_2 (by decide)) cl_2 dX8_tab_70 ?_
      refine lv_isub K.1 K.2.1 dX8_tab_71 ?_
      refine lv_i2l K.1 K.2.1 dX8_tab_72 rfl ?_
      refine lv_lload_n K.1 K.2.1 dX8_tab_73 rfl (lv_at hl 0 rfl) ?_
      refine lv_ldiv K.1 K.2.1 dX8_tab_74 (by rw [ex1_51]; exact h8 c36) ?_
      refine lv_lconst (v := 1) K.1 K.2.1 dX8_tab_75 (by decide) ?_
      refine lv_ladd K.1 K.2.1 dX8_tab_76 ?_
      refine lv_lload_n K.1 K.2.1 dX8_tab_77 rfl (lv_at hl 0 rfl) ?_
      refine lv_lmul K.1 K.2.1 dX8_tab_78 ?_
      refine lv_ladd K.1 K.2.1 dX8_tab_79 ?_
      refine lv_topl (fun x3_80 ex3_80 => ?_)
      refine lv_lstore_n (lv' := [(3, .long x3_80), (1, .long x1_51), (0, .ref (a 0))]) K.1 K.2.1 dX8_tab_80 rfl hl (by decide) rfl (fun ls hl => ?_)
      refine lv_aload_n K.1 K.2.1 dX8_tab_81 rfl (lv_at hl 2 rfl) ?_
      refine lv_lload_n K.1 K.2.1 dX8_tab_82 rfl (lv_at hl 0 rfl) ?_
      refine lv_aload_n K.1 K.2.1 dX8_tab_83 rfl (lv_at hl 2 rfl) ?_
      refine gM_0_1 K hw kf_X8_7 dX8_tab_84 ?_
      refine lv_iconst (v := 3) K.1 K.2.1 dX8_tab_87 (by decide) ?_
      refine lM_1 K hw (vi_3 (by decide)) cl_3 dX8_tab_88 ?_
      refine lv_i2l K.1 K.2.1 dX8_tab_89 rfl ?_
      refine lc_ge (tgt := 98) K dX8_tab_90 dX8_tab_91 (by decide) (fun c90 => ?_) (fun c90 => ?_)
      · refine lv_aload_n K.1 K.2.1 dX8_tab_98 rfl (lv_at hl 2 rfl) ?_
        refine gM_0_1 K hw kf_X8_7 dX8_tab_99 ?_
        refine lv_iconst (v := 3) K.1 K.2.1 dX8_tab_102 (by decide) ?_
        refine lM_1 K hw (vi_3 (by decide)) cl_3 dX8_tab_103 ?_
        refine lv_i2l K.1 K.2.1 dX8_tab_104 rfl ?_
        refine caV K hw (c_X8_setX l D a cA _ _) hl.1 (tt_V km_X8_77 kI_X8_setX ks_X8_setX ki_X8 kC_X8_setX) 0 (ci := 8) rfl rfl rfl (na := 1) rfl (by decide +kernel) ⟨rfl, rfl⟩ (by decide) ⟨Nat.zero_le _, Nat.zero_le _⟩ rfl (Nat.le_of_ble_eq_true rfl) dX8_tab_105 (fun H locs hw => ?_)
        obtain ⟨s105, es105, hw⟩ := nmM hw
        exact ret (congrArg (mdW a cA) (by subst es105 ex3_80 ex1_51; exact (Eq.trans (if_pos c12) (Eq.trans (if_neg c36) (Eq.trans (if_pos c90) rfl))))) hw dX8_tab_108
      · refine lv_lload_n K.1 K.2.1 dX8_tab_94 rfl (lv_at hl 0 rfl) ?_
        refine lv_goto (tgt := 105) K.1 K.2.1 dX8_tab_95 (by decide) ?_
        refine caV K hw (c_X8_setX l D a cA _ _) hl.1 (tt_V km_X8_77 kI_X8_setX ks_X8_setX ki_X8 kC_X8_setX) 0 (ci := 8) rfl rfl rfl (na := 1) rfl (by decide +kernel) ⟨rfl, rfl⟩ (by decide) ⟨Nat.zero_le _, Nat.zero_le _⟩ rfl (Nat.le_of_ble_eq_true rfl) dX8_tab_105 (fun H locs hw => ?_)
        obtain ⟨s105, es105, hw⟩ := nmM hw
        exact ret (congrArg (mdW a cA) (by subst es105 ex3_80 ex1_51; exact (Eq.trans (if_pos c12) (Eq.trans (if_neg c36) (Eq.trans (if_neg c90) rfl))))) hw dX8_tab_108
  · refine lv_aload_n K.1 K.2.1 dX8_tab_15 rfl (lv_at hl 0 rfl) ?_
    refine lv_aload_n K.1 K.2.1 dX8_tab_16 rfl (lv_at hl 0 rfl) ?_
    refine gM_0_1 K hw kf_X8_7 dX8_tab_17 ?_
    refine lv_iconst (v := 2) K.1 K.2.1 dX8_tab_20 (by decide) ?_
    refine lM_1 K hw (vi_2 (by decide)) cl_2 dX8_tab_21 ?_
    refine lv_i2l K.1 K.2.1 dX8_tab_22 rfl ?_
    refine caV K hw (c_X8_setX l D a cA _ _) hl.1 (tt_V km_X8_77 kI_X8_setX ks_X8_setX ki_X8 kC_X8_setX) 0 (ci := 8) rfl rfl rfl (na := 1) rfl (by decide +kernel) ⟨rfl, rfl⟩ (by decide) ⟨Nat.zero_le _, Nat.zero_le _⟩ rfl (Nat.le_of_ble_eq_true rfl) dX8_tab_23 (fun H locs hw => ?_)
    obtain ⟨s23, es23, hw⟩ := nmM hw
    refine lv_goto (tgt := 108) K.1 K.2.1 dX8_tab_26 (by decide) ?_
    exact ret (congrArg (mdW a cA) (by subst es23; exact (Eq.trans (if_neg c12) rfl))) hw dX8_tab_108
def g_X8_control_122 (σ : PS) (y1 : Int32) : PS := (if y1 = 10 then let s136 : PS := f_X8_lineFeed σ (σ.2.1 0 7); s136 else let s143 : PS := f_X8_eject σ; s143)
def g_X8_control_114 (σ : PS) (y1 : Int32) (y2 : Int32) : PS := (if y2 = 0 then (g_X8_control_122 σ y1) else let s119 : PS := f_X8_carriageReturn σ; (g_X8_control_122 s119 y1))
def g_X8_control_48 (σ : PS) (k0 : Int32) : PS := let x4_65 : Int64 := ((Int32.toInt64 (σ.2.1 0 0)) - (Int32.toInt64 (σ.2.1 0 6))); (if (Int32.toInt64 k0) ≤ x4_65 then let s83 : PS := f_X8_setX σ x4_65; s83 else let s83 : PS := f_X8_setX σ (Int32.toInt64 k0); s83)
def f_X8_control (σ0 : PS) (x1 : Int32) : PS := (if (σ0.2.1 0 10) ≤ 1 then (if x1 = 8 then (if (σ0.2.1 0 0) < (σ0.2.1 0 2) then (g_X8_control_48 σ0 0) else (g_X8_control_48 σ0 (σ0.2.1 0 2))) else (if x1 = 9 then let s96 : PS := f_X8_tab σ0; s96 else (if x1 = 10 then (g_X8_control_114 σ0 x1 0) else (if x1 = 12 then (g_X8_control_114 σ0 x1 0) else (if x1 = 13 then let s156 : PS := f_X8_carriageReturn σ0; (if ((s156.2.1 0 10) - (s156.2.1 0 10) / 2 * 2) = 1 then let s180 : PS := f_X8_lineFeed s156 (s156.2.1 0 7); s180 else s156) else (if x1 = 14 then (upA σ0 0 11 (15 - x1)) else (if x1 = 15 then (upA σ0 0 11 (15 - x1)) else σ0))))))) else (if x1 = 8 then (if (σ0.2.1 0 0) < (σ0.2.1 0 2) then (g_X8_control_48 σ0 0) else (g_X8_control_48 σ0 (σ0.2.1 0 2))) else (if x1 = 9 then let s96 : PS := f_X8_tab σ0; s96 else (if x1 = 10 then (g_X8_control_114 σ0 x1 1) else (if x1 = 12 then (g_X8_control_114 σ0 x1 1) else (if x1 = 13 then let s156 : PS := f_X8_carriageReturn σ0; (if ((s156.2.1 0 10) - (s156.2.1 0 10) / 2 * 2) = 1 then let s180 : PS := f_X8_lineFeed s156 (s156.2.1 0 7); s180 else s156) else (if x1 = 14 then (upA σ0 0 11 (15 - x1)) else (if x1 = 15 then (upA σ0 0 11 (15 - x1)) else σ0))))))))
theorem bm_g_X8_control_122 {σ : PS} {y1 : Int32} (hI : Bm σ) : Bm (g_X8_control_122 σ y1) := (bxI (fun c125 => (bm_X8_lineFeed hI)) (fun c125 => (bm_X8_eject hI)))
theorem bm_g_X8_control_114 {σ : PS} {y1 : Int32} {y2 : Int32} (hI : Bm σ) : Bm (g_X8_control_114 σ y1 y2) := (bxI (fun c115 => (bm_g_X8_control_122 hI)) (fun c115 => (bm_g_X8_control_122 (bm_X8_carriageReturn hI))))
theorem bm_g_X8_control_48 {σ : PS} {k0 : Int32} (hI : Bm σ) : Bm (g_X8_control_48 σ k0) := (bxI (fun c72 => (bm_X8_setX hI)) (fun c72 => (bm_X8_setX hI)))
theorem bm_X8_control {σ0 : PS} {x1 : Int32} (hI : Bm σ0) : Bm (f_X8_control σ0 x1) := (bxI (fun c8 => (bxI (fun c20 => (bxI (fun c35 => (bm_g_X8_control_48 hI)) (fun c35 => (bm_g_X8_control_48 hI)))) (fun c20 => (bxI (fun c92 => (bm_X8_tab hI)) (fun c92 => (bxI (fun c105 => (bm_g_X8_control_114 hI)) (fun c105 => (bxI (fun c111 => (bm_g_X8_control_114 hI)) (fun c111 => (bxI (fun c152 => (bxI (fun c169 => (bm_X8_lineFeed (bm_X8_carriageReturn hI))) (fun c169 => (bm_X8_carriageReturn hI)))) (fun c152 => (bxI (fun c189 => (bmT_11 hI (by first | (rw [c189]; decide) | (rw [c195]; decide)) (by first | (rw [c189]; decide) | (rw [c195]; decide)))) (fun c189 => (bxI (fun c195 => (bmT_11 hI (by first | (rw [c189]; decide) | (rw [c195]; decide)) (by first | (rw [c189]; decide) | (rw [c195]; decide)))) (fun c195 => hI))))))))))))))) (fun c8 => (bxI (fun c20 => (bxI (fun c35 => (bm_g_X8_control_48 hI)) (fun c35 => (bm_g_X8_control_48 hI)))) (fun c20 => (bxI (fun c92 => (bm_X8_tab hI)) (fun c92 => (bxI (fun c105 => (bm_g_X8_control_114 hI)) (fun c105 => (bxI (fun c111 => (bm_g_X8_control_114 hI)) (fun c111 => (bxI (fun c152 => (bxI (fun c169 => (bm_X8_lineFeed (bm_X8_carriageReturn hI))) (fun c169 => (bm_X8_carriageReturn hI)))) (fun c152 => (bxI (fun c189 => (bmT_11 hI (by first | (rw [c189]; decide) | (rw [c195]; decide)) (by first | (rw [c189]; decide) | (rw [c195]; decide)))) (fun c189 => (bxI (fun c195 => (bmT_11 hI (by first | (rw [c189]; decide) | (rw [c195]; decide)) (by first | (rw [c189]; decide) | (rw [c195]; decide)))) (fun c195 => hI))))))))))))))))
theorem pm_g_X8_control_122 {n : Int} {σ : PS} {y1 : Int32} (hP : Pm n σ) (hn : n ≤ 2147483646) : Pm (n + 1) (g_X8_control_122 σ y1) := (bxI (fun c125 => (pm_X8_lineFeed hP hn)) (fun c125 => (pm_X8_eject hP hn)))
theorem pm_g_X8_control_114 {n : Int} {σ : PS} {y1 : Int32} {y2 : Int32} (hP : Pm n σ) (hn : n ≤ 2147483646) : Pm (n + 1) (g_X8_control_114 σ y1 y2) := (bxI (fun c115 => (pm_g_X8_control_122 hP hn)) (fun c115 => (pm_g_X8_control_122 (pm_X8_carriageReturn hP) hn)))
theorem pm_g_X8_control_48 {n : Int} {σ : PS} {k0 : Int32} (hP : Pm n σ) : Pm (n) (g_X8_control_48 σ k0) := (bxI (fun c72 => (pm_X8_setX hP)) (fun c72 => (pm_X8_setX hP)))
theorem pm_X8_control {n : Int} {σ0 : PS} {x1 : Int32} (hP : Pm n σ0) (hn : n ≤ 2147483646) : Pm (n + 1) (f_X8_control σ0 x1) := (bxI (fun c8 => (bxI (fun c20 => (pm_w (bxI (fun c35 => (pm_g_X8_control_48 hP)) (fun c35 => (pm_g_X8_control_48 hP))))) (fun c20 => (bxI (fun c92 => (pm_w (pm_X8_tab hP))) (fun c92 => (bxI (fun c105 => (pm_g_X8_control_114 hP hn)) (fun c105 => (bxI (fun c111 => (pm_g_X8_control_114 hP hn)) (fun c111 => (bxI (fun c152 => (bxI (fun c169 => (pm_X8_lineFeed (pm_X8_carriageReturn hP) hn)) (fun c169 => (pm_w (pm_X8_carriageReturn hP))))) (fun c152 => (pm_w (bxI (fun c189 => hP) (fun c189 => (bxI (fun c195 => hP) (fun c195 => hP)))))))))))))))) (fun c8 => (bxI (fun c20 => (pm_w (bxI (fun c35 => (pm_g_X8_control_48 hP)) (fun c35 => (pm_g_X8_control_48 hP))))) (fun c20 => (bxI (fun c92 => (pm_w (pm_X8_tab hP))) (fun c92 => (bxI (fun c105 => (pm_g_X8_control_114 hP hn)) (fun c105 => (bxI (fun c111 => (pm_g_X8_control_114 hP hn)) (fun c111 => (bxI (fun c152 => (bxI (fun c169 => (pm_X8_lineFeed (pm_X8_carriageReturn hP) hn)) (fun c169 => (pm_w (pm_X8_carriageReturn hP))))) (fun c152 => (pm_w (bxI (fun c189 => hP) (fun c189 => (bxI (fun c195 => hP) (fun c195 => hP)))))))))))))))))
abbrev rm_X8_control : Room := { frames := 4, cells := 0, slots := 0, locals := 88 }
set_option maxHeartbeats 4000000 in
set_option maxRecDepth 100000 in
theorem c_X8_control (l : Launch) (D : va_G) (a : Nat → Nat) (cA : Nat → ClassId) (σ0 : PS) (x1 : Int32) (hI : Bm σ0) (hp : 0 ≤ (σ0.1 27).toInt) : CV l yX8_control cX8_control 6 rm_X8_control D (mdT cA) [.ref (a 0), .int x1] (mdW a cA σ0) (mdW a cA (f_X8_control σ0 x1)) := by
  refine en_v (by decide +kernel) (Nat.le_of_ble_eq_true rfl) ?_
  intro p e s m args below meth c A ls Q K hw hl ret
  have hl : lv_has ls 6 [(0, .ref (a 0)), (1, .int x1)] := hl
  have J122 : ∀ (σ : PS) (y1 : Int32) (H : Heap) (locs : List Loc) (ls : Array Slot), WD D A s.heap (mdW a cA σ) H locs → lv_has ls 6 [(0, .ref (a 0)), (1, .int y1)] → Bm σ → 0 ≤ (σ.1 27).toInt → f_X8_control σ0 x1 = g_X8_control_122 σ y1 → W p l e rm_X8_control s m args below meth c H locs 0 0 Q (F0 m 122 ls []) := by
    intro σ y1 H locs ls hw hl hI hp e0
    refine lv_iload_n K.1 K.2.1 dX8_control_122 rfl (lv_at hl 1 rfl) ?_
    refine lv_bipush (v := 10) K.1 K.2.1 dX8_control_123 (by decide) ?_
    refine lv_icmp_ne (tgt := 142) K.1 K.2.1 dX8_control_125 (by decide) (fun c125 => ?_) (fun c125 => ?_)
    · refine lv_aload_n K.1 K.2.1 dX8_control_142 rfl (lv_at hl 0 rfl) ?_
      refine caV K hw (c_X8_eject l D a cA _ hp) hl.1 (tt_V km_X8_107 kI_X8_eject ks_X8_eject ki_X8 kC_X8_eject) 0 (ci := 8) rfl rfl rfl (na := 0) rfl (by decide +kernel) ⟨rfl, rfl⟩ (by decide) ⟨Nat.zero_le _, Nat.zero_le _⟩ rfl (Nat.le_of_ble_eq_true rfl) dX8_control_143 (fun H locs hw => ?_)
      obtain ⟨s143, es143, hw⟩ := nmM hw
      have hI143 : Bm s143 := by rw [es143]; exact bm_X8_eject hI
      refine lv_goto (tgt := 209) K.1 K.2.1 dX8_control_146 (by decide) ?_
      exact ret (congrArg (mdW a cA) (by subst es143; exact (Eq.trans e0 (Eq.trans (if_neg c125) rfl)))) hw dX8_control_209
    · refine lv_aload_n K.1 K.2.1 dX8_control_128 rfl (lv_at hl 0 rfl) ?_
      refine lv_aload_n K.1 K.2.1 dX8_control_129 rfl (lv_at hl 0 rfl) ?_
      refine gM_0_1 K hw kf_X8_7 dX8_control_130 ?_
      refine lv_bipush (v := 7) K.1 K.2.1 dX8_control_133 (by decide) ?_
      refine lM_1 K hw (vi_7 (by decide)) cl_7 dX8_control_135 ?_
      refine caV K hw (c_X8_lineFeed l D a cA _ _ hp) hl.1 (tt_V km_X8_113 kI_X8_lineFeed ks_X8_lineFeed ki_X8 kC_X8_lineFeed) 0 (ci := 8) rfl rfl rfl (na := 1) rfl (by decide +kernel) ⟨rfl, rfl⟩ (by decide) ⟨Nat.zero_le _, Nat.zero_le _⟩ rfl (Nat.le_of_ble_eq_true rfl) dX8_control_136 (fun H locs hw => ?_)
      obtain ⟨s136, es136, hw⟩ := nmM hw
      have hI136 : Bm s136 := by rw [es136]; exact bm_X8_lineFeed hI
      refine lv_goto (tgt := 209) K.1 K.2.1 dX8_control_139 (by decide) ?_
      exact ret (congrArg (mdW a cA) (by subst es136; exact (Eq.trans e0 (Eq.trans (if_pos c125) rfl)))) hw dX8_control_209
  have J114 : ∀ (σ : PS) (y1 : Int32) (y2 : Int32) (H : Heap) (locs : List Loc) (ls : Array Slot), WD D A s.heap (mdW a cA σ) H locs → lv_has ls 6 [(0, .ref (a 0)), (1, .int y1), (2, .int y2)] → Bm σ → 0 ≤ (σ.1 27).toInt → f_X8_control σ0 x1 = g_X8_control_114 σ y1 y2 → W p l e rm_X8_control s m args below meth c H locs 0 0 Q (F0 m 114 ls []) := by
    intro σ y1 y2 H locs ls hw hl hI hp e0
    refine lv_iload_n K.1 K.2.1 dX8_control_114 rfl (lv_at hl 2 rfl) ?_
    refine lv_if_eq (tgt := 122) K.1 K.2.1 dX8_control_115 (by decide) (fun c115 => ?_) (fun c115 => ?_)
    · exact J122 _ _ _ _ _ hw (lv_sub hl [0, 1] rfl) hI hp (by exact (Eq.trans e0 (Eq.trans (if_pos c115) rfl)))
    · refine lv_aload_n K.1 K.2.1 dX8_control_118 rfl (lv_at hl 0 rfl) ?_
      refine caV K hw (c_X8_carriageReturn l D a cA _) hl.1 (tt_V km_X8_110 kI_X8_carriageReturn ks_X8_carriageReturn ki_X8 kC_X8_carriageReturn) 0 (ci := 8) rfl rfl rfl (na := 0) rfl (by decide +kernel) ⟨rfl, rfl⟩ (by decide) ⟨Nat.zero_le _, Nat.zero_le _⟩ rfl (Nat.le_of_ble_eq_true rfl) dX8_control_119 (fun H locs hw => ?_)
      obtain ⟨s119, es119, hw⟩ := nmM hw
      have hI119 : Bm s119 := by rw [es119]; exact bm_X8_carriageReturn hI
      have hp119 : 0 ≤ (s119.1 27).toInt := by rw [es119]; exact (pm_X8_carriageReturn ⟨hp, Int.le_refl _⟩).1
      exact J122 _ _ _ _ _ hw (lv_sub hl [0, 1] rfl) hI119 hp119 (by subst es119; exact (Eq.trans e0 (Eq.trans (if_neg c115) rfl)))
  have J48 : ∀ (σ : PS) (k0 : Int32) (H : Heap) (locs : List Loc) (ls : Array Slot), WD D A s.heap (mdW a cA σ) H locs → lv_has ls 6 [(0, .ref (a 0))] → Bm σ → f_X8_control σ0 x1 = g_X8_control_48 σ k0 → W p l e rm_X8_control s m args below meth c H locs 0 0 Q (F0 m 48 ls [.int k0]) := by
    intro σ k0 H locs ls hw hl hI e0
    refine lv_istore_n (lv' := [(3, .int k0), (0, .ref (a 0))]) K.1 K.2.1 dX8_control_48 rfl hl (by decide) rfl (fun ls hl => ?_)
    refine lv_aload_n K.1 K.2.1 dX8_control_49 rfl (lv_at hl 1 rfl) ?_
    refine gM_0_1 K hw kf_X8_7 dX8_control_50 ?_
    refine lv_iconst (v := 0) K.1 K.2.1 dX8_control_53 (by decide) ?_
    refine lM_1 K hw (vi_0 (by decide)) cl_0 dX8_control_54 ?_
    refine lv_i2l K.1 K.2.1 dX8_control_55 rfl ?_
    refine lv_aload_n K.1 K.2.1 dX8_control_56 rfl (lv_at hl 1 rfl) ?_
    refine gM_0_1 K hw kf_X8_7 dX8_control_57 ?_
    refine lv_bipush (v := 6) K.1 K.2.1 dX8_control_60 (by decide) ?_
    refine lM_1 K hw (vi_6 (by decide)) cl_6 dX8_control_62 ?_
    refine lv_i2l K.1 K.2.1 dX8_control_63 rfl ?_
    refine lv_lsub K.1 K.2.1 dX8_control_64 ?_
    refine lv_topl (fun x4_65 ex4_65 => ?_)
    refine lv_lstore (lv' := [(4, .long x4_65), (3, .int k0), (0, .ref (a 0))]) K.1 K.2.1 dX8_control_65 hl (by decide) rfl (fun ls hl => ?_)
    refine lv_aload_n K.1 K.2.1 dX8_control_67 rfl (lv_at hl 2 rfl) ?_
    refine lv_lload K.1 K.2.1 dX8_control_68 (lv_at hl 0 rfl) ?_
    refine lv_iload_n K.1 K.2.1 dX8_control_70 rfl (lv_at hl 1 rfl) ?_
    refine lv_i2l K.1 K.2.1 dX8_control_71 rfl ?_
    refine lc_ge (tgt := 81) K dX8_control_72 dX8_control_73 (by decide) (fun c72 => ?_) (fun c72 => ?_)
    · refine lv_lload K.1 K.2.1 dX8_control_81 (lv_at hl 0 rfl) ?_
      refine caV K hw (c_X8_setX l D a cA _ _) hl.1 (tt_V km_X8_77 kI_X8_setX ks_X8_setX ki_X8 kC_X8_setX) 0 (ci := 8) rfl rfl rfl (na := 1) rfl (by decide +kernel) ⟨rfl, rfl⟩ (by decide) ⟨Nat.zero_le _, Nat.zero_le _⟩ rfl (Nat.le_of_ble_eq_true rfl) dX8_control_83 (fun H locs hw => ?_)
      obtain ⟨s83, es83, hw⟩ := nmM hw
      have hI83 : Bm s83 := by rw [es83]; exact bm_X8_setX hI
      refine lv_goto (tgt := 209) K.1 K.2.1 dX8_control_86 (by decide) ?_
      exact ret (congrArg (mdW a cA) (by subst es83 ex4_65; exact (Eq.trans e0 (Eq.trans (if_pos c72) rfl)))) hw dX8_control_209
    · refine lv_iload_n K.1 K.2.1 dX8_control_76 rfl (lv_at hl 1 rfl) ?_
      refine lv_i2l K.1 K.2.1 dX8_control_77 rfl ?_
      refine lv_goto (tgt := 83) K.1 K.2.1 dX8_control_78 (by decide) ?_
      refine caV K hw (c_X8_setX l D a cA _ _) hl.1 (tt_V km_X8_77 kI_X8_setX ks_X8_setX ki_X8 kC_X8_setX) 0 (ci := 8) rfl rfl rfl (na := 1) rfl (by decide +kernel) ⟨rfl, rfl⟩ (by decide) ⟨Nat.zero_le _, Nat.zero_le _⟩ rfl (Nat.le_of_ble_eq_true rfl) dX8_control_83 (fun H locs hw => ?_)
      obtain ⟨s83, es83, hw⟩ := nmM hw
      have hI83 : Bm s83 := by rw [es83]; exact bm_X8_setX hI
      refine lv_goto (tgt := 209) K.1 K.2.1 dX8_control_86 (by decide) ?_
      exact ret (congrArg (mdW a cA) (by subst es83 ex4_65; exact (Eq.trans e0 (Eq.trans (if_neg c72) rfl)))) hw dX8_control_209
  refine lv_aload_n K.1 K.2.1 dX8_control_0 rfl (lv_at hl 0 rfl) ?_
  refine gM_0_1 K hw kf_X8_7 dX8_control_1 ?_
  refine lv_bipush (v := 10) K.1 K.2.1 dX8_control_4 (by decide) ?_
  refine lM_1 K hw (vi_10 (by decide)) cl_10 dX8_control_6 ?_
  refine lv_iconst (v := 1) K.1 K.2.1 dX8_control_7 (by decide) ?_
  refine lv_icmp_le (tgt := 15) K.1 K.2.1 dX8_control_8 (by decide) (fun c8 => ?_) (fun c8 => ?_)
  · refine lv_iconst (v := 0) K.1 K.2.1 dX8_control_15 (by decide) ?_
    refine lv_istore_n (lv' := [(2, .int 0), (0, .ref (a 0)), (1, .int x1)]) K.1 K.2.1 dX8_control_16 rfl hl (by decide) rfl (fun ls hl => ?_)
    refine lv_iload_n K.1 K.2.1 dX8_control_17 rfl (lv_at hl 2 rfl) ?_
    refine lv_bipush (v := 8) K.1 K.2.1 dX8_control_18 (by decide) ?_
    refine lv_icmp_ne (tgt := 89) K.1 K.2.1 dX8_control_20 (by decide) (fun c20 => ?_) (fun c20 => ?_)
    · refine lv_iload_n K.1 K.2.1 dX8_control_89 rfl (lv_at hl 2 rfl) ?_
      refine lv_bipush (v := 9) K.1 K.2.1 dX8_control_90 (by decide) ?_
      refine lv_icmp_ne (tgt := 102) K.1 K.2.1 dX8_control_92 (by decide) (fun c92 => ?_) (fun c92 => ?_)
      · refine lv_iload_n K.1 K.2.1 dX8_control_102 rfl (lv_at hl 2 rfl) ?_
        refine lv_bipush (v := 10) K.1 K.2.1 dX8_control_103 (by decide) ?_
        refine lv_icmp_eq (tgt := 114) K.1 K.2.1 dX8_control_105 (by decide) (fun c105 => ?_) (fun c105 => ?_)
        · exact J114 _ _ _ _ _ _ hw (lv_sub hl [1, 2, 0] rfl) hI hp (by exact (Eq.trans (if_pos c8) (Eq.trans (if_neg c20) (Eq.trans (if_neg c92) (Eq.trans (if_pos c105) rfl)))))
        · refine lv_iload_n K.1 K.2.1 dX8_control_108 rfl (lv_at hl 2 rfl) ?_
          refine lv_bipush (v := 12) K.1 K.2.1 dX8_control_109 (by decide) ?_
          refine lv_icmp_ne (tgt := 149) K.1 K.2.1 dX8_control_111 (by decide) (fun c111 => ?_) (fun c111 => ?_)
          · refine lv_iload_n K.1 K.2.1 dX8_control_149 rfl (lv_at hl 2 rfl) ?_
            refine lv_bipush (v := 13) K.1 K.2.1 dX8_control_150 (by decide) ?_
            refine lv_icmp_ne (tgt := 186) K.1 K.2.1 dX8_control_152 (by decide) (fun c152 => ?_) (fun c152 => ?_)
            · refine lv_iload_n K.1 K.2.1 dX8_control_186 rfl (lv_at hl 2 rfl) ?_
              refine lv_bipush (v := 14) K.1 K.2.1 dX8_control_187 (by decide) ?_
              refine lv_icmp_eq (tgt := 198) K.1 K.2.1 dX8_control_189 (by decide) (fun c189 => ?_) (fun c189 => ?_)
              · refine lv_aload_n K.1 K.2.1 dX8_control_198 rfl (lv_at hl 1 rfl) ?_
                refine gM_0_1 K hw kf_X8_7 dX8_control_199 ?_
                refine lv_bipush (v := 11) K.1 K.2.1 dX8_control_202 (by decide) ?_
                refine lv_bipush (v := 15) K.1 K.2.1 dX8_control_204 (by decide) ?_
                refine lv_iload_n K.1 K.2.1 dX8_control_206 rfl (lv_at hl 2 rfl) ?_
                refine lv_isub K.1 K.2.1 dX8_control_207 ?_
                refine sM_1 K hw (vi_11 (by decide)) cl_11 dX8_control_208 (fun H locs hw => ?_)
                exact ret (congrArg (mdW a cA) (by exact (Eq.trans (if_pos c8) (Eq.trans (if_neg c20) (Eq.trans (if_neg c92) (Eq.trans (if_neg c105) (Eq.trans (if_neg c111) (Eq.trans (if_neg c152) (Eq.trans (if_pos c189) rfl))))))))) hw dX8_control_209
              · refine lv_iload_n K.1 K.2.1 dX8_control_192 rfl (lv_at hl 2 rfl) ?_
                refine lv_bipush (v := 15) K.1 K.2.1 dX8_control_193 (by decide) ?_
                refine lv_icmp_ne (tgt := 209) K.1 K.2.1 dX8_control_195 (by decide) (fun c195 => ?_) (fun c195 => ?_)
                · exact ret (congrArg (mdW a cA) (by exact (Eq.trans (if_pos c8) (Eq.trans (if_neg c20) (Eq.trans (if_neg c92) (Eq.trans (if_neg c105) (Eq.trans (if_neg c111) (Eq.trans (if_neg c152) (Eq.trans (if_neg c189) (Eq.trans (if_neg c195) rfl)))))))))) hw dX8_control_209
                · refine lv_aload_n K.1 K.2.1 dX8_control_198 rfl (lv_at hl 1 rfl) ?_
                  refine gM_0_1 K hw kf_X8_7 dX8_control_199 ?_
                  refine lv_bipush (v := 11) K.1 K.2.1 dX8_control_202 (by decide) ?_
                  refine lv_bipush (v := 15) K.1 K.2.1 dX8_control_204 (by decide) ?_
                  refine lv_iload_n K.1 K.2.1 dX8_control_206 rfl (lv_at hl 2 rfl) ?_
                  refine lv_isub K.1 K.2.1 dX8_control_207 ?_
                  refine sM_1 K hw (vi_11 (by decide)) cl_11 dX8_control_208 (fun H locs hw => ?_)
                  exact ret (congrArg (mdW a cA) (by exact (Eq.trans (if_pos c8) (Eq.trans (if_neg c20) (Eq.trans (if_neg c92) (Eq.trans (if_neg c105) (Eq.trans (if_neg c111) (Eq.trans (if_neg c152) (Eq.trans (if_neg c189) (Eq.trans (if_pos c195) rfl)))))))))) hw dX8_control_209
            · refine lv_aload_n K.1 K.2.1 dX8_control_155 rfl (lv_at hl 1 rfl) ?_
              refine caV K hw (c_X8_carriageReturn l D a cA _) hl.1 (tt_V km_X8_110 kI_X8_carriageReturn ks_X8_carriageReturn ki_X8 kC_X8_carriageReturn) 0 (ci := 8) rfl rfl rfl (na := 0) rfl (by decide +kernel) ⟨rfl, rfl⟩ (by decide) ⟨Nat.zero_le _, Nat.zero_le _⟩ rfl (Nat.le_of_ble_eq_true rfl) dX8_control_156 (fun H locs hw => ?_)
              obtain ⟨s156, es156, hw⟩ := nmM hw
              have hI156 : Bm s156 := by rw [es156]; exact bm_X8_carriageReturn hI
              have hp156 : 0 ≤ (s156.1 27).toInt := by rw [es156]; exact (pm_X8_carriageReturn ⟨hp, Int.le_refl _⟩).1
              refine lv_aload_n K.1 K.2.1 dX8_control_159 rfl (lv_at hl 1 rfl) ?_
              refine gM_0_1 K hw kf_X8_7 dX8_control_160 ?_
              refine lv_bipush (v := 10) K.1 K.2.1 dX8_control_163 (by decide) ?_
              refine lM_1 K hw (vi_10 (by decide)) cl_10 dX8_control_165 ?_
              refine lv_iconst (v := 2) K.1 K.2.1 dX8_control_166 (by decide) ?_
              refine lv_irem K.1 K.2.1 dX8_control_167 (by decide) ?_
              refine lv_iconst (v := 1) K.1 K.2.1 dX8_control_168 (by decide) ?_
              refine lv_icmp_ne (tgt := 209) K.1 K.2.1 dX8_control_169 (by decide) (fun c169 => ?_) (fun c169 => ?_)
              · exact ret (congrArg (mdW a cA) (by subst es156; exact (Eq.trans (if_pos c8) (Eq.trans (if_neg c20) (Eq.trans (if_neg c92) (Eq.trans (if_neg c105) (Eq.trans (if_neg c111) (Eq.trans (if_pos c152) (Eq.trans (if_neg c169) rfl))))))))) hw dX8_control_209
              · refine lv_aload_n K.1 K.2.1 dX8_control_172 rfl (lv_at hl 1 rfl) ?_
                refine lv_aload_n K.1 K.2.1 dX8_control_173 rfl (lv_at hl 1 rfl) ?_
                refine gM_0_1 K hw kf_X8_7 dX8_control_174 ?_
                refine lv_bipush (v := 7) K.1 K.2.1 dX8_control_177 (by decide) ?_
                refine lM_1 K hw (vi_7 (by decide)) cl_7 dX8_control_179 ?_
                refine caV K hw (c_X8_lineFeed l D a cA _ _ hp156) hl.1 (tt_V km_X8_113 kI_X8_lineFeed ks_X8_lineFeed ki_X8 kC_X8_lineFeed) 0 (ci := 8) rfl rfl rfl (na := 1) rfl (by decide +kernel) ⟨rfl, rfl⟩ (by decide) ⟨Nat.zero_le _, Nat.zero_le _⟩ rfl (Nat.le_of_ble_eq_true rfl) dX8_control_180 (fun H locs hw => ?_)
                obtain ⟨s180, es180, hw⟩ := nmM hw
                have hI180 : Bm s180 := by rw [es180]; exact bm_X8_lineFeed hI156
                refine lv_goto (tgt := 209) K.1 K.2.1 dX8_control_183 (by decide) ?_
                exact ret (congrArg (mdW a cA) (by subst es180 es156; exact (Eq.trans (if_pos c8) (Eq.trans (if_neg c20) (Eq.trans (if_neg c92) (Eq.trans (if_neg c105) (Eq.trans (if_neg c111) (Eq.trans (if_pos c152) (Eq.trans (if_pos c169) rfl))))))))) hw dX8_control_209
          · exact J114 _ _ _ _ _ _ hw (lv_sub hl [1, 2, 0] rfl) hI hp (by exact (Eq.trans (if_pos c8) (Eq.trans (if_neg c20) (Eq.trans (if_neg c92) (Eq.trans (if_neg c105) (Eq.trans (if_pos c111) rfl))))))
      · refine lv_aload_n K.1 K.2.1 dX8_control_95 rfl (lv_at hl 1 rfl) ?_
        refine caV K hw (c_X8_tab l D a cA _) hl.1 (tt_V km_X8_119 kI_X8_tab ks_X8_tab ki_X8 kC_X8_tab) 0 (ci := 8) rfl rfl rfl (na := 0) rfl (by decide +kernel) ⟨rfl, rfl⟩ (by decide) ⟨Nat.zero_le _, Nat.zero_le _⟩ rfl (Nat.le_of_ble_eq_true rfl) dX8_control_96 (fun H locs hw => ?_)
        obtain ⟨s96, es96, hw⟩ := nmM hw
        have hI96 : Bm s96 := by rw [es96]; exact bm_X8_tab hI
        have hp96 : 0 ≤ (s96.1 27).toInt := by rw [es96]; exact (pm_X8_tab ⟨hp, Int.le_refl _⟩).1
        refine lv_goto (tgt := 209) K.1 K.2.1 dX8_control_99 (by decide) ?_
        exact ret (congrArg (mdW a cA) (by subst es96; exact (Eq.trans (if_pos c8) (Eq.trans (if_neg c20) (Eq.trans (if_pos c92) rfl))))) hw dX8_control_209
    · refine lv_aload_n K.1 K.2.1 dX8_control_23 rfl (lv_at hl 1 rfl) ?_
      refine gM_0_1 K hw kf_X8_7 dX8_control_24 ?_
      refine lv_iconst (v := 0) K.1 K.2.1 dX8_control_27 (by decide) ?_
      refine lM_1 K hw (vi_0 (by decide)) cl_0 dX8_control_28 ?_
      refine lv_aload_n K.1 K.2.1 dX8_control_29 rfl (lv_at hl 1 rfl) ?_
      refine gM_0_1 K hw kf_X8_7 dX8_control_30 ?_
      refine lv_iconst (v := 2) K.1 K.2.1 dX8_control_33 (by decide) ?_
      refine lM_1 K hw (vi_2 (by decide)) cl_2 dX8_control_34 ?_
      refine lv_icmp_lt (tgt := 47) K.1 K.2.1 dX8_control_35 (by decide) (fun c35 => ?_) (fun c35 => ?_)
      · refine lv_iconst (v := 0) K.1 K.2.1 dX8_control_47 (by decide) ?_
        exact J48 _ _ _ _ _ hw (lv_sub hl [1] rfl) hI (by exact (Eq.trans (if_pos c8) (Eq.trans (if_pos c20) (Eq.trans (if_pos c35) rfl))))
      · refine lv_aload_n K.1 K.2.1 dX8_control_38 rfl (lv_at hl 1 rfl) ?_
        refine gM_0_1 K hw kf_X8_7 dX8_control_39 ?_
        refine lv_iconst (v := 2) K.1 K.2.1 dX8_control_42 (by decide) ?_
        refine lM_1 K hw (vi_2 (by decide)) cl_2 dX8_control_43 ?_
        refine lv_goto (tgt := 48) K.1 K.2.1 dX8_control_44 (by decide) ?_
        exact J48 _ _ _ _ _ hw (lv_sub hl [1] rfl) hI (by exact (Eq.trans (if_pos c8) (Eq.trans (if_pos c20) (Eq.trans (if_neg c35) rfl))))
  · refine lv_iconst (v := 1) K.1 K.2.1 dX8_control_11 (by decide) ?_
    refine lv_goto (tgt := 16) K.1 K.2.1 dX8_control_12 (by decide) ?_
    refine lv_istore_n (lv' := [(2, .int 1), (0, .ref (a 0)), (1, .int x1)]) K.1 K.2.1 dX8_control_16 rfl hl (by decide) rfl (fun ls hl => ?_)
    refine lv_iload_n K.1 K.2.1 dX8_control_17 rfl (lv_at hl 2 rfl) ?_
    refine lv_bipush (v := 8) K.1 K.2.1 dX8_control_18 (by decide) ?_
    refine lv_icmp_ne (tgt := 89) K.1 K.2.1 dX8_control_20 (by decide) (fun c20 => ?_) (fun c20 => ?_)
    · refine lv_iload_n K.1 K.2.1 dX8_control_89 rfl (lv_at hl 2 rfl) ?_
      refine lv_bipush (v := 9) K.1 K.2.1 dX8_control_90 (by decide) ?_
      refine lv_icmp_ne (tgt := 102) K.1 K.2.1 dX8_control_92 (by decide) (fun c92 => ?_) (fun c92 => ?_)
      · refine lv_iload_n K.1 K.2.1 dX8_control_102 rfl (lv_at hl 2 rfl) ?_
        refine lv_bipush (v := 10) K.1 K.2.1 dX8_control_103 (by decide) ?_
        refine lv_icmp_eq (tgt := 114) K.1 K.2.1 dX8_control_105 (by decide) (fun c105 => ?_) (fun c105 => ?_)
        · exact J114 _ _ _ _ _ _ hw (lv_sub hl [1, 2, 0] rfl) hI hp (by exact (Eq.trans (if_neg c8) (Eq.trans (if_neg c20) (Eq.trans (if_neg c92) (Eq.trans (if_pos c105) rfl)))))
        · refine lv_iload_n K.1 K.2.1 dX8_control_108 rfl (lv_at hl 2 rfl) ?_
          refine lv_bipush (v := 12) K.1 K.2.1 dX8_control_109 (by decide) ?_
          refine lv_icmp_ne (tgt := 149) K.1 K.2.1 dX8_control_111 (by decide) (fun c111 => ?_) (fun c111 => ?_)
          · refine lv_iload_n K.1 K.2.1 dX8_control_149 rfl (lv_at hl 2 rfl) ?_
            refine lv_bipush (v := 13) K.1 K.2.1 dX8_control_150 (by decide) ?_
            refine lv_icmp_ne (tgt := 186) K.1 K.2.1 dX8_control_152 (by decide) (fun c152 => ?_) (fun c152 => ?_)
            · refine lv_iload_n K.1 K.2.1 dX8_control_186 rfl (lv_at hl 2 rfl) ?_
              refine lv_bipush (v := 14) K.1 K.2.1 dX8_control_187 (by decide) ?_
              refine lv_icmp_eq (tgt := 198) K.1 K.2.1 dX8_control_189 (by decide) (fun c189 => ?_) (fun c189 => ?_)
              · refine lv_aload_n K.1 K.2.1 dX8_control_198 rfl (lv_at hl 1 rfl) ?_
                refine gM_0_1 K hw kf_X8_7 dX8_control_199 ?_
                refine lv_bipush (v := 11) K.1 K.2.1 dX8_control_202 (by decide) ?_
                refine lv_bipush (v := 15) K.1 K.2.1 dX8_control_204 (by decide) ?_
                refine lv_iload_n K.1 K.2.1 dX8_control_206 rfl (lv_at hl 2 rfl) ?_
                refine lv_isub K.1 K.2.1 dX8_control_207 ?_
                refine sM_1 K hw (vi_11 (by decide)) cl_11 dX8_control_208 (fun H locs hw => ?_)
                exact ret (congrArg (mdW a cA) (by exact (Eq.trans (if_neg c8) (Eq.trans (if_neg c20) (Eq.trans (if_neg c92) (Eq.trans (if_neg c105) (Eq.trans (if_neg c111) (Eq.trans (if_neg c152) (Eq.trans (if_pos c189) rfl))))))))) hw dX8_control_209
              · refine lv_iload_n K.1 K.2.1 dX8_control_192 rfl (lv_at hl 2 rfl) ?_
                refine lv_bipush (v := 15) K.1 K.2.1 dX8_control_193 (by decide) ?_
                refine lv_icmp_ne (tgt := 209) K.1 K.2.1 dX8_control_195 (by decide) (fun c195 => ?_) (fun c195 => ?_)
                · exact ret (congrArg (mdW a cA) (by exact (Eq.trans (if_neg c8) (Eq.trans (if_neg c20) (Eq.trans (if_neg c92) (Eq.trans (if_neg c105) (Eq.trans (if_neg c111) (Eq.trans (if_neg c152) (Eq.trans (if_neg c189) (Eq.trans (if_neg c195) rfl)))))))))) hw dX8_control_209
                · refine lv_aload_n K.1 K.2.1 dX8_control_198 rfl (lv_at hl 1 rfl) ?_
                  refine gM_0_1 K hw kf_X8_7 dX8_control_199 ?_
                  refine lv_bipush (v := 11) K.1 K.2.1 dX8_control_202 (by decide) ?_
                  refine lv_bipush (v := 15) K.1 K.2.1 dX8_control_204 (by decide) ?_
                  refine lv_iload_n K.1 K.2.1 dX8_control_206 rfl (lv_at hl 2 rfl) ?_
                  refine lv_isub K.1 K.2.1 dX8_control_207 ?_
                  refine sM_1 K hw (vi_11 (by decide)) cl_11 dX8_control_208 (fun H locs hw => ?_)
                  exact ret (congrArg (mdW a cA) (by exact (Eq.trans (if_neg c8) (Eq.trans (if_neg c20) (Eq.trans (if_neg c92) (Eq.trans (if_neg c105) (Eq.trans (if_neg c111) (Eq.trans (if_neg c152) (Eq.trans (if_neg c189) (Eq.trans (if_pos c195) rfl)))))))))) hw dX8_control_209
            · refine lv_aload_n K.1 K.2.1 dX8_control_155 rfl (lv_at hl 1 rfl) ?_
              refine caV K hw (c_X8_carriageReturn l D a cA _) hl.1 (tt_V km_X8_110 kI_X8_carriageReturn ks_X8_carriageReturn ki_X8 kC_X8_carriageReturn) 0 (ci := 8) rfl rfl rfl (na := 0) rfl (by decide +kernel) ⟨rfl, rfl⟩ (by decide) ⟨Nat.zero_le _, Nat.zero_le _⟩ rfl (Nat.le_of_ble_eq_true rfl) dX8_control_156 (fun H locs hw => ?_)
              obtain ⟨s156, es156, hw⟩ := nmM hw
              have hI156 : Bm s156 := by rw [es156]; exact bm_X8_carriageReturn hI
              have hp156 : 0 ≤ (s156.1 27).toInt := by rw [es156]; exact (pm_X8_carriageReturn ⟨hp, Int.le_refl _⟩).1
              refine lv_aload_n K.1 K.2.1 dX8_control_159 rfl (lv_at hl 1 rfl) ?_
              refine gM_0_1 K hw kf_X8_7 dX8_control_160 ?_
              refine lv_bipush (v := 10) K.1 K.2.1 dX8_control_163 (by decide) ?_
              refine lM_1 K hw (vi_10 (by decide)) cl_10 dX8_control_165 ?_
              refine lv_iconst (v := 2) K.1 K.2.1 dX8_control_166 (by decide) ?_
              refine lv_irem K.1 K.2.1 dX8_control_167 (by decide) ?_
              refine lv_iconst (v := 1) K.1 K.2.1 dX8_control_168 (by decide) ?_
              refine lv_icmp_ne (tgt := 209) K.1 K.2.1 dX8_control_169 (by decide) (fun c169 => ?_) (fun c169 => ?_)
              · exact ret (congrArg (mdW a cA) (by subst es156; exact (Eq.trans (if_neg c8) (Eq.trans (if_neg c20) (Eq.trans (if_neg c92) (Eq.trans (if_neg c105) (Eq.trans (if_neg c111) (Eq.trans (if_pos c152) (Eq.trans (if_neg c169) rfl))))))))) hw dX8_control_209
              · refine lv_aload_n K.1 K.2.1 dX8_control_172 rfl (lv_at hl 1 rfl) ?_
                refine lv_aload_n K.1 K.2.1 dX8_control_173 rfl (lv_at hl 1 rfl) ?_
                refine gM_0_1 K hw kf_X8_7 dX8_control_174 ?_
                refine lv_bipush (v := 7) K.1 K.2.1 dX8_control_177 (by decide) ?_
                refine lM_1 K hw (vi_7 (by decide)) cl_7 dX8_control_179 ?_
                refine caV K hw (c_X8_lineFeed l D a cA _ _ hp156) hl.1 (tt_V km_X8_113 kI_X8_lineFeed ks_X8_lineFeed ki_X8 kC_X8_lineFeed) 0 (ci := 8) rfl rfl rfl (na := 1) rfl (by decide +kernel) ⟨rfl, rfl⟩ (by decide) ⟨Nat.zero_le _, Nat.zero_le _⟩ rfl (Nat.le_of_ble_eq_true rfl) dX8_control_180 (fun H locs hw => ?_)
                obtain ⟨s180, es180, hw⟩ := nmM hw
                have hI180 : Bm s180 := by rw [es180]; exact bm_X8_lineFeed hI156
                refine lv_goto (tgt := 209) K.1 K.2.1 dX8_control_183 (by decide) ?_
                exact ret (congrArg (mdW a cA) (by subst es180 es156; exact (Eq.trans (if_neg c8) (Eq.trans (if_neg c20) (Eq.trans (if_neg c92) (Eq.trans (if_neg c105) (Eq.trans (if_neg c111) (Eq.trans (if_pos c152) (Eq.trans (if_pos c169) rfl))))))))) hw dX8_control_209
          · exact J114 _ _ _ _ _ _ hw (lv_sub hl [1, 2, 0] rfl) hI hp (by exact (Eq.trans (if_neg c8) (Eq.trans (if_neg c20) (Eq.trans (if_neg c92) (Eq.trans (if_neg c105) (Eq.trans (if_pos c111) rfl))))))
      · refine lv_aload_n K.1 K.2.1 dX8_control_95 rfl (lv_at hl 1 rfl) ?_
        refine caV K hw (c_X8_tab l D a cA _) hl.1 (tt_V km_X8_119 kI_X8_tab ks_X8_tab ki_X8 kC_X8_tab) 0 (ci := 8) rfl rfl rfl (na := 0) rfl (by decide +kernel) ⟨rfl, rfl⟩ (by decide) ⟨Nat.zero_le _, Nat.zero_le _⟩ rfl (Nat.le_of_ble_eq_true rfl) dX8_control_96 (fun H locs hw => ?_)
        obtain ⟨s96, es96, hw⟩ := nmM hw
        have hI96 : Bm s96 := by rw [es96]; exact bm_X8_tab hI
        have hp96 : 0 ≤ (s96.1 27).toInt := by rw [es96]; exact (pm_X8_tab ⟨hp, Int.le_refl _⟩).1
        refine lv_goto (tgt := 209) K.1 K.2.1 dX8_control_99 (by decide) ?_
        exact ret (congrArg (mdW a cA) (by subst es96; exact (Eq.trans (if_neg c8) (Eq.trans (if_neg c20) (Eq.trans (if_pos c92) rfl))))) hw dX8_control_209
    · refine lv_aload_n K.1 K.2.1 dX8_control_23 rfl (lv_at hl 1 rfl) ?_
      refine gM_0_1 K hw kf_X8_7 dX8_control_24 ?_
      refine lv_iconst (v := 0) K.1 K.2.1 dX8_control_27 (by decide) ?_
      refine lM_1 K hw (vi_0 (by decide)) cl_0 dX8_control_28 ?_
      refine lv_aload_n K.1 K.2.1 dX8_control_29 rfl (lv_at hl 1 rfl) ?_
      refine gM_0_1 K hw kf_X8_7 dX8_control_30 ?_
      refine lv_iconst (v := 2) K.1 K.2.1 dX8_control_33 (by decide) ?_
      refine lM_1 K hw (vi_2 (by decide)) cl_2 dX8_control_34 ?_
      refine lv_icmp_lt (tgt := 47) K.1 K.2.1 dX8_control_35 (by decide) (fun c35 => ?_) (fun c35 => ?_)
      · refine lv_iconst (v := 0) K.1 K.2.1 dX8_control_47 (by decide) ?_
        exact J48 _ _ _ _ _ hw (lv_sub hl [1] rfl) hI (by exact (Eq.trans (if_neg c8) (Eq.trans (if_pos c20) (Eq.trans (if_pos c35) rfl))))
      · refine lv_aload_n K.1 K.2.1 dX8_control_38 rfl (lv_at hl 1 rfl) ?_
        refine gM_0_1 K hw kf_X8_7 dX8_control_39 ?_
        refine lv_iconst (v := 2) K.1 K.2.1 dX8_control_42 (by decide) ?_
        refine lM_1 K hw (vi_2 (by decide)) cl_2 dX8_control_43 ?_
        refine lv_goto (tgt := 48) K.1 K.2.1 dX8_control_44 (by decide) ?_
        exact J48 _ _ _ _ _ hw (lv_sub hl [1] rfl) hI (by exact (Eq.trans (if_neg c8) (Eq.trans (if_pos c20) (Eq.trans (if_neg c35) rfl))))
def f_X8_shortSequence (σ0 : PS) (x1 : Int32) : PS := (if x1 = 69 then let s7 : PS := f_X8_ejectIfDue σ0; let s11 : PS := f_X8_reset s7; s11 else (if x1 = 57 then (upA (upA σ0 0 2 0) 0 3 (σ0.1 7)) else (if x1 = 61 then let s59 : PS := f_X8_lineFeed σ0 ((σ0.2.1 0 7) / 2); s59 else σ0)))
theorem bm_X8_shortSequence {σ0 : PS} {x1 : Int32} (hI : Bm σ0) : Bm (f_X8_shortSequence σ0 x1) := (bxI (fun c3 => (bm_X8_reset (bm_X8_ejectIfDue hI))) (fun c3 => (bxI (fun c20 => (bmT (bmT hI (by decide) (by decide)) (by decide) (by decide))) (fun c20 => (bxI (fun c46 => (bm_X8_lineFeed hI)) (fun c46 => hI))))))
theorem pm_X8_shortSequence {n : Int} {σ0 : PS} {x1 : Int32} (hP : Pm n σ0) (hn : n ≤ 2147483646) : Pm (n + 1) (f_X8_shortSequence σ0 x1) := (bxI (fun c3 => (pm_X8_reset (pm_X8_ejectIfDue hP hn))) (fun c3 => (bxI (fun c20 => (pm_w hP)) (fun c20 => (bxI (fun c46 => (pm_X8_lineFeed hP hn)) (fun c46 => (pm_w hP)))))))
abbrev rm_X8_shortSequence : Room := { frames := 4, cells := 0, slots := 0, locals := 88 }
set_option maxHeartbeats 4000000 in
set_option maxRecDepth 100000 in
theorem c_X8_shortSequence (l : Launch) (D : va_G) (a : Nat → Nat) (cA : Nat → ClassId) (σ0 : PS) (x1 : Int32) (hp : 0 ≤ (σ0.1 27).toInt) : CV l yX8_shortSequence cX8_shortSequence 2 rm_X8_shortSequence D (mdT cA) [.ref (a 0), .int x1] (mdW a cA σ0) (mdW a cA (f_X8_shortSequence σ0 x1)) := by
  refine en_v (by decide +kernel) (Nat.le_of_ble_eq_true rfl) ?_
  intro p e s m args below meth c A ls Q K hw hl ret
  have hl : lv_has ls 2 [(0, .ref (a 0)), (1, .int x1)] := hl
  refine lv_iload_n K.1 K.2.1 dX8_shortSequence_0 rfl (lv_at hl 1 rfl) ?_
  refine lv_bipush (v := 69) K.1 K.2.1 dX8_shortSequence_1 (by decide) ?_
  refine lv_icmp_ne (tgt := 17) K.1 K.2.1 dX8_shortSequence_3 (by decide) (fun c3 => ?_) (fun c3 => ?_)
  · refine lv_iload_n K.1 K.2.1 dX8_shortSequence_17 rfl (lv_at hl 1 rfl) ?_
    refine lv_bipush (v := 57) K.1 K.2.1 dX8_shortSequence_18 (by decide) ?_
    refine lv_icmp_ne (tgt := 43) K.1 K.2.1 dX8_shortSequence_20 (by decide) (fun c20 => ?_) (fun c20 => ?_)
    · refine lv_iload_n K.1 K.2.1 dX8_shortSequence_43 rfl (lv_at hl 1 rfl) ?_
      refine lv_bipush (v := 61) K.1 K.2.1 dX8_shortSequence_44 (by decide) ?_
      refine lv_icmp_ne (tgt := 62) K.1 K.2.1 dX8_shortSequence_46 (by decide) (fun c46 => ?_) (fun c46 => ?_)
      · exact ret (congrArg (mdW a cA) (by exact (Eq.trans (if_neg c3) (Eq.trans (if_neg c20) (Eq.trans (if_neg c46) rfl))))) hw dX8_shortSequence_62
      · refine lv_aload_n K.1 K.2.1 dX8_shortSequence_49 rfl (lv_at hl 0 rfl) ?_
        refine lv_aload_n K.1 K.2.1 dX8_shortSequence_50 rfl (lv_at hl 0 rfl) ?_
        refine gM_0_1 K hw kf_X8_7 dX8_shortSequence_51 ?_
        refine lv_bipush (v := 7) K.1 K.2.1 dX8_shortSequence_54 (by decide) ?_
        refine lM_1 K hw (vi_7 (by decide)) cl_7 dX8_shortSequence_56 ?_
        refine lv_iconst (v := 2) K.1 K.2.1 dX8_shortSequence_57 (by decide) ?_
        refine lv_idiv K.1 K.2.1 dX8_shortSequence_58 (by decide) ?_
        refine caV K hw (c_X8_lineFeed l D a cA _ _ hp) hl.1 (tt_V km_X8_113 kI_X8_lineFeed ks_X8_lineFeed ki_X8 kC_X8_lineFeed) 0 (ci := 8) rfl rfl rfl (na := 1) rfl (by decide +kernel) ⟨rfl, rfl⟩ (by decide) ⟨Nat.zero_le _, Nat.zero_le _⟩ rfl (Nat.le_of_ble_eq_true rfl) dX8_shortSequence_59 (fun H locs hw => ?_)
        obtain ⟨s59, es59, hw⟩ := nmM hw
        exact ret (congrArg (mdW a cA) (by subst es59; exact (Eq.trans (if_neg c3) (Eq.trans (if_neg c20) (Eq.trans (if_pos c46) rfl))))) hw dX8_shortSequence_62
    · refine lv_aload_n K.1 K.2.1 dX8_shortSequence_23 rfl (lv_at hl 0 rfl) ?_
      refine gM_0_1 K hw kf_X8_7 dX8_shortSequence_24 ?_
      refine lv_iconst (v := 2) K.1 K.2.1 dX8_shortSequence_27 (by decide) ?_
      refine lv_iconst (v := 0) K.1 K.2.1 dX8_shortSequence_28 (by decide) ?_
      refine sM_1 K hw (vi_2 (by decide)) cl_2 dX8_shortSequence_29 (fun H locs hw => ?_)
      refine lv_aload_n K.1 K.2.1 dX8_shortSequence_30 rfl (lv_at hl 0 rfl) ?_
      refine gM_0_1 K hw kf_X8_7 dX8_shortSequence_31 ?_
      refine lv_iconst (v := 3) K.1 K.2.1 dX8_shortSequence_34 (by decide) ?_
      refine lv_aload_n K.1 K.2.1 dX8_shortSequence_35 rfl (lv_at hl 0 rfl) ?_
      refine gM_0_7 K hw kf_X8_64 dX8_shortSequence_36 ?_
      refine sM_1 K hw (vi_3 (by decide)) cl_3 dX8_shortSequence_39 (fun H locs hw => ?_)
      refine lv_goto (tgt := 62) K.1 K.2.1 dX8_shortSequence_40 (by decide) ?_
      exact ret (congrArg (mdW a cA) (by exact (Eq.trans (if_neg c3) (Eq.trans (if_pos c20) rfl)))) hw dX8_shortSequence_62
  · refine lv_aload_n K.1 K.2.1 dX8_shortSequence_6 rfl (lv_at hl 0 rfl) ?_
    refine caV K hw (c_X8_ejectIfDue l D a cA _ hp) hl.1 (tt_V km_X8_122 kI_X8_ejectIfDue ks_X8_ejectIfDue ki_X8 kC_X8_ejectIfDue) 0 (ci := 8) rfl rfl rfl (na := 0) rfl (by decide +kernel) ⟨rfl, rfl⟩ (by decide) ⟨Nat.zero_le _, Nat.zero_le _⟩ rfl (Nat.le_of_ble_eq_true rfl) dX8_shortSequence_7 (fun H locs hw => ?_)
    obtain ⟨s7, es7, hw⟩ := nmM hw
    refine lv_aload_n K.1 K.2.1 dX8_shortSequence_10 rfl (lv_at hl 0 rfl) ?_
    refine caV K hw (c_X8_reset l D a cA _) hl.1 (tt_V km_X8_36 kI_X8_reset ks_X8_reset ki_X8 kC_X8_reset) 0 (ci := 8) rfl rfl rfl (na := 0) rfl (by decide +kernel) ⟨rfl, rfl⟩ (by decide) ⟨Nat.zero_le _, Nat.zero_le _⟩ rfl (Nat.le_of_ble_eq_true rfl) dX8_shortSequence_11 (fun H locs hw => ?_)
    obtain ⟨s11, es11, hw⟩ := nmM hw
    refine lv_goto (tgt := 62) K.1 K.2.1 dX8_shortSequence_14 (by decide) ?_
    exact ret (congrArg (mdW a cA) (by subst es11 es7; exact (Eq.trans (if_pos c3) rfl))) hw dX8_shortSequence_62
def f_X8_beginField (σ0 : PS) : PS := (upS (upS (upS (upS (upS (upS σ0 13 0) 14 0) 15 0) 16 0) 17 0) 18 0)
theorem bm_X8_beginField {σ0 : PS} (hI : Bm σ0) : Bm (f_X8_beginField σ0) := (bmQ_18 (bmS_17 (bmS_16 (bmQ_15 (bmQ_14 (bmS_13 hI) (by decide) (by decide)) (by decide) (by decide)))) (by decide) (by decide))
theorem pm_X8_beginField {n : Int} {σ0 : PS} (hP : Pm n σ0) : Pm (n) (f_X8_beginField σ0) := hP
abbrev rm_X8_beginField : Room := { frames := 0, cells := 0, slots := 0, locals := 0 }
set_option maxHeartbeats 4000000 in
set_option maxRecDepth 100000 in
theorem c_X8_beginField (l : Launch) (D : va_G) (a : Nat → Nat) (cA : Nat → ClassId) (σ0 : PS) : CV l yX8_beginField cX8_beginField 1 rm_X8_beginField D (mdT cA) [.ref (a 0)] (mdW a cA σ0) (mdW a cA (f_X8_beginField σ0)) := by
  refine en_v (by decide +kernel) (Nat.le_of_ble_eq_true rfl) ?_
  intro p e s m args below meth c A ls Q K hw hl ret
  have hl : lv_has ls 1 [(0, .ref (a 0))] := hl
  refine lv_aload_n K.1 K.2.1 dX8_beginField_0 rfl (lv_at hl 0 rfl) ?_
  refine lv_iconst (v := 0) K.1 K.2.1 dX8_beginField_1 (by decide) ?_
  refine pM_0_13 K hw kf_X8_125 dX8_beginField_2 (fun H locs hw => ?_)
  refine lv_aload_n K.1 K.2.1 dX8_beginField_5 rfl (lv_at hl 0 rfl) ?_
  refine lv_iconst (v := 0) K.1 K.2.1 dX8_beginField_6 (by decide) ?_
  refine pM_0_14 K hw rfl rfl kf_X8_128 dX8_beginField_7 (fun H locs hw => ?_)
  refine lv_aload_n K.1 K.2.1 dX8_beginField_10 rfl (lv_at hl 0 rfl) ?_
  refine lv_iconst (v := 0) K.1 K.2.1 dX8_beginField_11 (by decide) ?_
  refine pM_0_15 K hw rfl rfl kf_X8_131 dX8_beginField_12 (fun H locs hw => ?_)
  refine lv_aload_n K.1 K.2.1 dX8_beginField_15 rfl (lv_at hl 0 rfl) ?_
  refine lv_iconst (v := 0) K.1 K.2.1 dX8_beginField_16 (by decide) ?_
  refine pM_0_16 K hw kf_X8_134 dX8_beginField_17 (fun H locs hw => ?_)
  refine lv_aload_n K.1 K.2.1 dX8_beginField_20 rfl (lv_at hl 0 rfl) ?_
  refine lv_iconst (v := 0) K.1 K.2.1 dX8_beginField_21 (by decide) ?_
  refine pM_0_17 K hw kf_X8_137 dX8_beginField_22 (fun H locs hw => ?_)
  refine lv_aload_n K.1 K.2.1 dX8_beginField_25 rfl (lv_at hl 0 rfl) ?_
  refine lv_iconst (v := 0) K.1 K.2.1 dX8_beginField_26 (by decide) ?_
  refine pM_0_18 K hw kf_X8_140 dX8_beginField_27 (fun H locs hw => ?_)
  exact ret (congrArg (mdW a cA) (by exact rfl)) hw dX8_beginField_30
def g_X8_behindEsc_55 (σ : PS) (y1 : Int32) : PS := (if y1 = 27 then (upS σ 10 1) else (upS σ 10 0))
def g_X8_behindEsc_25 (σ : PS) (y1 : Int32) : PS := (if y1 < 33 then (g_X8_behindEsc_55 σ y1) else (if 47 < y1 then (g_X8_behindEsc_55 σ y1) else (upS (upS (upS σ 10 2) 11 y1) 12 0)))
def f_X8_behindEsc (σ0 : PS) (x1 : Int32) : PS := (if x1 < 48 then (g_X8_behindEsc_25 σ0 x1) else (if 126 < x1 then (g_X8_behindEsc_25 σ0 x1) else let s19 : PS := f_X8_shortSequence (upS σ0 10 0) x1; s19))
theorem bm_g_X8_behindEsc_55 {σ : PS} {y1 : Int32} (hI : Bm σ) : Bm (g_X8_behindEsc_55 σ y1) := (bxI (fun c59 => (bmS_10 hI)) (fun c59 => (bmS_10 hI)))
theorem bm_g_X8_behindEsc_25 {σ : PS} {y1 : Int32} (hI : Bm σ) : Bm (g_X8_behindEsc_25 σ y1) := (bxI (fun c28 => (bm_g_X8_behindEsc_55 hI)) (fun c28 => (bxI (fun c34 => (bm_g_X8_behindEsc_55 hI)) (fun c34 => (bmS_12 (bmS_11 (bmS_10 hI)))))))
theorem bm_X8_behindEsc {σ0 : PS} {x1 : Int32} (hI : Bm σ0) : Bm (f_X8_behindEsc σ0 x1) := (bxI (fun c3 => (bm_g_X8_behindEsc_25 hI)) (fun c3 => (bxI (fun c9 => (bm_g_X8_behindEsc_25 hI)) (fun c9 => (bm_X8_shortSequence (bmS_10 hI))))))
theorem pm_g_X8_behindEsc_55 {n : Int} {σ : PS} {y1 : Int32} (hP : Pm n σ) : Pm (n) (g_X8_behindEsc_55 σ y1) := (bxI (fun c59 => hP) (fun c59 => hP))
theorem pm_g_X8_behindEsc_25 {n : Int} {σ : PS} {y1 : Int32} (hP : Pm n σ) : Pm (n) (g_X8_behindEsc_25 σ y1) := (bxI (fun c28 => (pm_g_X8_behindEsc_55 hP)) (fun c28 => (bxI (fun c34 => (pm_g_X8_behindEsc_55 hP)) (fun c34 => hP))))
theorem pm_X8_behindEsc {n : Int} {σ0 : PS} {x1 : Int32} (hP : Pm n σ0) (hn : n ≤ 2147483646) : Pm (n + 1) (f_X8_behindEsc σ0 x1) := (bxI (fun c3 => (pm_w (pm_g_X8_behindEsc_25 hP))) (fun c3 => (bxI (fun c9 => (pm_w (pm_g_X8_behindEsc_25 hP))) (fun c9 => (pm_X8_shortSequence hP hn)))))
abbrev rm_X8_behindEsc : Room := { frames := 5, cells := 0, slots := 0, locals := 109 }
set_option maxHeartbeats 4000000 in
set_option maxRecDepth 100000 in
theorem c_X8_behindEsc (l : Launch) (D : va_G) (a : Nat → Nat) (cA : Nat → ClassId) (σ0 : PS) (x1 : Int32) (hp : 0 ≤ (σ0.1 27).toInt) : CV l yX8_behindEsc cX8_behindEsc 2 rm_X8_behindEsc D (mdT cA) [.ref (a 0), .int x1] (mdW a cA σ0) (mdW a cA (f_X8_behindEsc σ0 x1)) := by
  refine en_v (by decide +kernel) (Nat.le_of_ble_eq_true rfl) ?_
  intro p e s m args below meth c A ls Q K hw hl ret
  have hl : lv_has ls 2 [(0, .ref (a 0)), (1, .int x1)] := hl
  have J55 : ∀ (σ : PS) (y1 : Int32) (H : Heap) (locs : List Loc) (ls : Array Slot), WD D A s.heap (mdW a cA σ) H locs → lv_has ls 2 [(0, .ref (a 0)), (1, .int y1)] → f_X8_behindEsc σ0 x1 = g_X8_behindEsc_55 σ y1 → W p l e rm_X8_behindEsc s m args below meth c H locs 0 0 Q (F0 m 55 ls []) := by
    intro σ y1 H locs ls hw hl e0
    refine lv_aload_n K.1 K.2.1 dX8_behindEsc_55 rfl (lv_at hl 0 rfl) ?_
    refine lv_iload_n K.1 K.2.1 dX8_behindEsc_56 rfl (lv_at hl 1 rfl) ?_
    refine lv_bipush (v := 27) K.1 K.2.1 dX8_behindEsc_57 (by decide) ?_
    refine lv_icmp_ne (tgt := 66) K.1 K.2.1 dX8_behindEsc_59 (by decide) (fun c59 => ?_) (fun c59 => ?_)
    · refine lv_iconst (v := 0) K.1 K.2.1 dX8_behindEsc_66 (by decide) ?_
      refine pM_0_10 K hw kf_X8_143 dX8_behindEsc_67 (fun H locs hw => ?_)
      exact ret (congrArg (mdW a cA) (by exact (Eq.trans e0 (Eq.trans (if_neg c59) rfl)))) hw dX8_behindEsc_70
    · refine lv_iconst (v := 1) K.1 K.2.1 dX8_behindEsc_62 (by decide) ?_
      refine lv_goto (tgt := 67) K.1 K.2.1 dX8_behindEsc_63 (by decide) ?_
      refine pM_0_10 K hw kf_X8_143 dX8_behindEsc_67 (fun H locs hw => ?_)
      exact ret (congrArg (mdW a cA) (by exact (Eq.trans e0 (Eq.trans (if_pos c59) rfl)))) hw dX8_behindEsc_70
  have J25 : ∀ (σ : PS) (y1 : Int32) (H : Heap) (locs : List Loc) (ls : Array Slot), WD D A s.heap (mdW a cA σ) H locs → lv_has ls 2 [(0, .ref (a 0)), (1, .int y1)] → f_X8_behindEsc σ0 x1 = g_X8_behindEsc_25 σ y1 → W p l e rm_X8_behindEsc s m args below meth c H locs 0 0 Q (F0 m 25 ls []) := by
    intro σ y1 H locs ls hw hl e0
    refine lv_iload_n K.1 K.2.1 dX8_behindEsc_25 rfl (lv_at hl 1 rfl) ?_
    refine lv_bipush (v := 33) K.1 K.2.1 dX8_behindEsc_26 (by decide) ?_
    refine lv_icmp_lt (tgt := 55) K.1 K.2.1 dX8_behindEsc_28 (by decide) (fun c28 => ?_) (fun c28 => ?_)
    · exact J55 _ _ _ _ _ hw (lv_sub hl [0, 1] rfl) (by exact (Eq.trans e0 (Eq.trans (if_pos c28) rfl)))
    · refine lv_iload_n K.1 K.2.1 dX8_behindEsc_31 rfl (lv_at hl 1 rfl) ?_
      refine lv_bipush (v := 47) K.1 K.2.1 dX8_behindEsc_32 (by decide) ?_
      refine lv_icmp_gt (tgt := 55) K.1 K.2.1 dX8_behindEsc_34 (by decide) (fun c34 => ?_) (fun c34 => ?_)
      · exact J55 _ _ _ _ _ hw (lv_sub hl [0, 1] rfl) (by exact (Eq.trans e0 (Eq.trans (if_neg c28) (Eq.trans (if_pos c34) rfl))))
      · refine lv_aload_n K.1 K.2.1 dX8_behindEsc_37 rfl (lv_at hl 0 rfl) ?_
        refine lv_iconst (v := 2) K.1 K.2.1 dX8_behindEsc_38 (by decide) ?_
        refine pM_0_10 K hw kf_X8_143 dX8_behindEsc_39 (fun H locs hw => ?_)
        refine lv_aload_n K.1 K.2.1 dX8_behindEsc_42 rfl (lv_at hl 0 rfl) ?_
        refine lv_iload_n K.1 K.2.1 dX8_behindEsc_43 rfl (lv_at hl 1 rfl) ?_
        refine pM_0_11 K hw kf_X8_149 dX8_behindEsc_44 (fun H locs hw => ?_)
        refine lv_aload_n K.1 K.2.1 dX8_behindEsc_47 rfl (lv_at hl 0 rfl) ?_
        refine lv_iconst (v := 0) K.1 K.2.1 dX8_behindEsc_48 (by decide) ?_
        refine pM_0_12 K hw kf_X8_152 dX8_behindEsc_49 (fun H locs hw => ?_)
        refine lv_goto (tgt := 70) K.1 K.2.1 dX8_behindEsc_52 (by decide) ?_
        exact ret (congrArg (mdW a cA) (by exact (Eq.trans e0 (Eq.trans (if_neg c28) (Eq.trans (if_neg c34) rfl))))) hw dX8_behindEsc_70
  refine lv_iload_n K.1 K.2.1 dX8_behindEsc_0 rfl (lv_at hl 1 rfl) ?_
  refine lv_bipush (v := 48) K.1 K.2.1 dX8_behindEsc_1 (by decide) ?_
  refine lv_icmp_lt (tgt := 25) K.1 K.2.1 dX8_behindEsc_3 (by decide) (fun c3 => ?_) (fun c3 => ?_)
  · exact J25 _ _ _ _ _ hw (lv_sub hl [0, 1] rfl) (by exact (Eq.trans (if_pos c3) rfl))
  · refine lv_iload_n K.1 K.2.1 dX8_behindEsc_6 rfl (lv_at hl 1 rfl) ?_
    refine lv_bipush (v := 126) K.1 K.2.1 dX8_behindEsc_7 (by decide) ?_
    refine lv_icmp_gt (tgt := 25) K.1 K.2.1 dX8_behindEsc_9 (by decide) (fun c9 => ?_) (fun c9 => ?_)
    · exact J25 _ _ _ _ _ hw (lv_sub hl [0, 1] rfl) (by exact (Eq.trans (if_neg c3) (Eq.trans (if_pos c9) rfl)))
    · refine lv_aload_n K.1 K.2.1 dX8_behindEsc_12 rfl (lv_at hl 0 rfl) ?_
      refine lv_iconst (v := 0) K.1 K.2.1 dX8_behindEsc_13 (by decide) ?_
      refine pM_0_10 K hw kf_X8_143 dX8_behindEsc_14 (fun H locs hw => ?_)
      refine lv_aload_n K.1 K.2.1 dX8_behindEsc_17 rfl (lv_at hl 0 rfl) ?_
      refine lv_iload_n K.1 K.2.1 dX8_behindEsc_18 rfl (lv_at hl 1 rfl) ?_
      refine caV K hw (c_X8_shortSequence l D a cA _ _ hp) hl.1 (tt_V km_X8_146 kI_X8_shortSequence ks_X8_shortSequence ki_X8 kC_X8_shortSequence) 0 (ci := 8) rfl rfl rfl (na := 1) rfl (by decide +kernel) ⟨rfl, rfl⟩ (by decide) ⟨Nat.zero_le _, Nat.zero_le _⟩ rfl (Nat.le_of_ble_eq_true rfl) dX8_behindEsc_19 (fun H locs hw => ?_)
      obtain ⟨s19, es19, hw⟩ := nmM hw
      refine lv_goto (tgt := 70) K.1 K.2.1 dX8_behindEsc_22 (by decide) ?_
      exact ret (congrArg (mdW a cA) (by subst es19; exact (Eq.trans (if_neg c3) (Eq.trans (if_neg c9) rfl)))) hw dX8_behindEsc_70
