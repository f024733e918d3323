/-! the pure relation, part 6: the other commands, and which is which -/
theorem PP.cmdH {n m : Int} {σ μ : PS} {V : Int64} (h : PP n m σ μ) (hV : 0 ≤ V.toInt ∧ V.toInt ≤ 327679999) : PP n m (upS σ 22 (Int64.toInt32 ((60 * V) / 10000))) (upA μ 0 6 (Int64.toInt32 ((60 * V) / 10000))) := by
  obtain ⟨v1, v2⟩ := hV
  have y60 : (60 : Int64).toInt = 60 := rfl
  have yt : (10000 : Int64).toInt = 10000 := rfl
  have m1 : (60 * V).toInt = 60 * V.toInt := by rw [i64mul (by rw [y60]; omega) (by rw [y60]; omega), y60]
  have m2 : (60 * V / 10000).toInt = 60 * V.toInt / 10000 := by rw [i64div (by omega) (by omega), m1, yt]
  refine ⟨h.1.sH rfl ?_, h.2⟩
  unfold bd
  rw [tI32 (by omega) (by omega), m2]
  omega
theorem PP.cmdG {n m : Int} {σ μ : PS} {k : Int32} (h : PP n m σ μ) (hk : bd k 0 32767) : KK n m (if (3 : Int64) < k.toInt64 then (σ, 1) else ((upS σ 28 (Int64.toInt32 k.toInt64)), 1)) (if 4 ≤ k then ((upA μ 0 10 (μ.2.1 0 10)), 1) else ((upA μ 0 10 k), 1)) := by
  obtain ⟨k1, k2⟩ := hk
  have z4 : (4 : Int32).toInt = 4 := rfl
  have y3 : (3 : Int64).toInt = 3 := rfl
  rw [upA_same, t32]
  refine ite2 (P := KK n m) ?_ (fun _ _ => KK.o h) (fun _ hc => KK.o ⟨h.1.sLe rfl ?_, h.2⟩)
  · rw [lt64, le32, i64I]; omega
  · rw [le32] at hc
    exact ⟨k1, by omega⟩
theorem upA_same2 {μ : PS} {j i k : Nat} {v : Int32} (hk : k ≠ i) : upA (upA μ j i v) j k (μ.2.1 j k) = upA μ j i v := by
  have e : μ.2.1 j k = (upA μ j i v).2.1 j k := by
    show μ.2.1 j k = va_up μ.2.1 j (upd (μ.2.1 j) i v) j k
    unfold va_up
    rw [if_pos rfl, upd_ne hk]
  rw [e]
  exact upA_same
theorem PP.cmdL {n m : Int} {σ μ : PS} {k : Int32} (h : PP n m σ μ) (hk : bd k 0 32768) : KK n m (f_X7_setLeft σ (k.toInt64 * (Int32.toInt64 (σ.1 22))), 1) (if (Int32.toInt64 (μ.2.1 0 3)) ≤ ((Int32.toInt64 k) * (Int32.toInt64 (μ.2.1 0 6))) then (μ, 1) else (if (k * (μ.2.1 0 6)) ≤ (μ.2.1 0 0) then ((upA (upA μ 0 2 (k * (μ.2.1 0 6))) 0 0 (μ.2.1 0 0)), 1) else ((upA (upA μ 0 2 (k * (μ.2.1 0 6))) 0 0 (k * (μ.2.1 0 6))), 1))) := by
  obtain ⟨⟨a1, a2, a3, a4, a5⟩, ⟨b0, b1, b2, b3, b4, b5, b6, b7, b8, b9, b10, b11, b12⟩, hst, c0, c1, c2, c3, c4, c5, c6, c7, c8, c9, c10, c11, c12, c13, c14, c15, c16, c17⟩ := h.1
  rw [upA_same2 (by decide)]
  unfold f_X7_setLeft
  rw [b3, b6, b0]
  obtain ⟨e1, e2, e3⟩ := mul64 hk c9
  have p1 := c8.2
  have p2 := c3.2
  by_cases hc : (σ.1 21).toInt64 ≤ k.toInt64 * (σ.1 22).toInt64
  · rw [if_pos hc, if_pos hc]
    exact KK.o h
  · rw [if_neg hc, if_neg hc]
    rw [le64, i64I, e1] at hc
    obtain ⟨f1, f2⟩ := mul32 hk c9 (by omega)
    rw [f1]
    have hb : bd (k * σ.1 22) 0 (σ.1 16).toInt := by unfold bd; rw [f2]; omega
    by_cases hd : k * σ.1 22 ≤ σ.1 24
    · rw [if_pos hd, if_pos hd]
      exact KK.o ⟨h.1.sLeft rfl hb, h.2⟩
    · rw [if_neg hd, if_neg hd]
      exact KK.o ⟨(h.1.sLeft rfl hb).sX rfl hb, h.2⟩
theorem PP.cmdM {n m : Int} {σ μ : PS} {k : Int32} (h : PP n m σ μ) : KK n m (f_X7_setRight σ ((k.toInt64 + 1) * (Int32.toInt64 (σ.1 22))), 1) (if (((Int32.toInt64 k) + 1) * (Int32.toInt64 (μ.2.1 0 6))) ≤ (Int32.toInt64 (μ.2.1 0 2)) then (μ, 1) else (if (μ.2.1 0 0) ≤ (f_X8_within (((Int32.toInt64 k) + 1) * (Int32.toInt64 (μ.2.1 0 6))) (μ.1 7)) then ((upA (upA μ 0 3 (f_X8_within (((Int32.toInt64 k) + 1) * (Int32.toInt64 (μ.2.1 0 6))) (μ.1 7))) 0 0 (μ.2.1 0 0)), 1) else ((upA (upA μ 0 3 (f_X8_within (((Int32.toInt64 k) + 1) * (Int32.toInt64 (μ.2.1 0 6))) (μ.1 7))) 0 0 (f_X8_within (((Int32.toInt64 k) + 1) * (Int32.toInt64 (μ.2.1 0 6))) (μ.1 7))), 1))) := by
  obtain ⟨⟨a1, a2, a3, a4, a5⟩, ⟨b0, b1, b2, b3, b4, b5, b6, b7, b8, b9, b10, b11, b12⟩, hst, c0, c1, c2, c3, c4, c5, c6, c7, c8, c9, c10, c11, c12, c13, c14, c15, c16, c17⟩ := h.1
  rw [upA_same2 (by decide)]
  unfold f_X7_setRight
  rw [b6, b0, b2, a4]
  simp only [win_eq]
  have hb : bd (f_X8_within ((k.toInt64 + 1) * (σ.1 22).toInt64) (σ.1 16)) 0 (σ.1 16).toInt := win_bd (by have := c3.1; omega)
  generalize (k.toInt64 + 1) * (σ.1 22).toInt64 = Z at hb
  by_cases hc : Z ≤ (σ.1 20).toInt64
  · rw [if_pos hc, if_pos hc]
    exact KK.o h
  · rw [if_neg hc, if_neg hc]
    by_cases hd : σ.1 24 ≤ f_X8_within Z (σ.1 16)
    · rw [if_pos hd, if_pos hd]
      exact KK.o ⟨h.1.sRight rfl hb, h.2⟩
    · rw [if_neg hd, if_neg hd]
      exact KK.o ⟨(h.1.sRight rfl hb).sX rfl hb, h.2⟩
theorem PP.cmdC {n m : Int} {σ μ : PS} {k : Int32} (h : PP n m σ μ) (hk : bd k 0 32767) : KK n m (if (1 : Int64) < k.toInt64 then (σ, 1) else (if k.toInt64 = 0 then ((upS σ 26 1), 1) else ((upS σ 26 0), 1))) (if k = 0 then ((upA μ 0 8 1), 1) else (if k = 1 then ((upA μ 0 8 0), 1) else ((upA μ 0 8 (μ.2.1 0 8)), 1))) := by
  obtain ⟨k1, k2⟩ := hk
  have z0 : (0 : Int32).toInt = 0 := rfl
  have z1 : (1 : Int32).toInt = 1 := rfl
  have y1 : (1 : Int64).toInt = 1 := rfl
  have y0 : (0 : Int64).toInt = 0 := rfl
  rw [upA_same]
  by_cases e0 : k = 0
  · rw [if_pos e0, e0, if_neg (by decide), if_pos (by decide)]
    exact KK.o ⟨h.1.sWrap rfl ⟨by decide, by decide⟩, h.2⟩
  · by_cases e1 : k = 1
    · rw [if_neg e0, if_pos e1, e1, if_neg (by decide), if_neg (by decide)]
      exact KK.o ⟨h.1.sWrap rfl ⟨by decide, by decide⟩, h.2⟩
    · rw [if_neg e0, if_neg e1]
      rw [eq32] at e0 e1
      rw [if_pos (by rw [lt64, i64I]; omega)]
      exact KK.o h
theorem PP.stk {n m : Int} {σ μ : PS} {k : Int32} (h : PP n m σ μ) (hk : bd k 0 32767) : KK n m (if k.toInt64 = 0 then (f_X1_push σ, 1) else (if k.toInt64 = 1 then (if (σ.1 30) ≤ 0 then (σ, 1) else (f_X7_setY (f_X7_setX (upS σ 30 ((σ.1 30) - 1)) (Int32.toInt64 (σ.2.1 1 (Int32.toNatClampNeg ((σ.1 30) - 1))))) (Int32.toInt64 ((f_X7_setX (upS σ 30 ((σ.1 30) - 1)) (Int32.toInt64 (σ.2.1 1 (Int32.toNatClampNeg ((σ.1 30) - 1))))).2.1 2 (Int32.toNatClampNeg ((f_X7_setX (upS σ 30 ((σ.1 30) - 1)) (Int32.toInt64 (σ.2.1 1 (Int32.toNatClampNeg ((σ.1 30) - 1))))).1 30)))), 1)) else (σ, 1))) (f_X8_stack μ k, 1) := by
  obtain ⟨k1, k2⟩ := hk
  have z0 : (0 : Int32).toInt = 0 := rfl
  have z1 : (1 : Int32).toInt = 1 := rfl
  have z2 : (2 : Int32).toInt = 2 := rfl
  have z20 : (20 : Int32).toInt = 20 := rfl
  have z11 : (11 : Int32).toInt = 11 := rfl
  have z12 : (12 : Int32).toInt = 12 := rfl
  have z13 : (13 : Int32).toInt = 13 := rfl
  have z14 : (14 : Int32).toInt = 14 := rfl
  have hq : ∀ c : Int64, ∀ d : Int32, c = d.toInt64 → (k.toInt64 = c ↔ k = d) := fun c d e => by
    subst e
    rw [eq64, i64I, i64I, eq32]
  have h0 := h
  obtain ⟨⟨⟨a1, a2, a3, a4, a5⟩, ⟨b0, b1, b2, b3, b4, b5, b6, b7, b8, b9, b10, b11, b12⟩, hst, c0, c1, c2, c3, c4, c5, c6, c7, c8, c9, c10, c11, c12, c13, c14, c15, c16, c17⟩, hr⟩ := h
  obtain ⟨d1, d2⟩ := c17
  simp only [hq 0 0 rfl, hq 1 1 rfl]
  unfold f_X8_stack
  try dsimp only
  rw [b12]
  have em : (2 * σ.1 30).toInt = 2 * (σ.1 30).toInt := by rw [i32mul (by rw [z2]; omega) (by rw [z2]; omega), z2]
  by_cases e0 : k = 0
  · subst e0
    rw [if_pos rfl, if_pos rfl]
    unfold f_X1_push
    by_cases hc : 20 ≤ σ.1 30
    · rw [if_pos hc, if_pos hc, if_neg (by decide)]
      exact KK.o h0
    · rw [if_neg hc, if_neg hc]
      rw [le32] at hc
      obtain ⟨d, ed⟩ : ∃ d : Nat, (σ.1 30).toInt = (d : Int) := ⟨(σ.1 30).toInt.toNat, by omega⟩
      have k0 : (σ.1 30).toNatClampNeg = d := clampE ed
      have k13 : (13 + 2 * σ.1 30).toNatClampNeg = 13 + 2 * d := clampE (by rw [i32add (by omega) (by omega), em, z13]; omega)
      have k14 : (14 + 2 * σ.1 30).toNatClampNeg = 14 + 2 * d := clampE (by rw [i32add (by omega) (by omega), em, z14]; omega)
      have ei : (σ.1 30 + 1).toInt = (σ.1 30).toInt + 1 := by rw [i32add (by omega) (by omega), z1]
      rw [k0, k13, k14]
      have u1 : (upA μ 0 (13 + 2 * d) (μ.2.1 0 0)).2.1 0 1 = σ.1 25 := by
        show upd (μ.2.1 0) (13 + 2 * d) (μ.2.1 0 0) 1 = σ.1 25
        rw [upd_ne (by omega), b1]
      rw [u1]
      have u2 : (upA (upA μ 0 (13 + 2 * d) (μ.2.1 0 0)) 0 (14 + 2 * d) (σ.1 25)).2.1 0 12 = σ.1 30 := by
        show upd (upd (μ.2.1 0) (13 + 2 * d) (μ.2.1 0 0)) (14 + 2 * d) (σ.1 25) 12 = σ.1 30
        rw [upd_ne (by omega), upd_ne (by omega), b12]
      rw [u2]
      have lo : ∀ j : Nat, j < 12 → upd (upd (upd (μ.2.1 0) (13 + 2 * d) (μ.2.1 0 0)) (14 + 2 * d) (σ.1 25)) 12 (σ.1 30 + 1) j = μ.2.1 0 j := fun j hj => by rw [upd_ne (by omega), upd_ne (by omega), upd_ne (by omega)]
      refine KK.o ⟨⟨⟨a1, a2, a3, a4, a5⟩, ⟨(lo 0 (by decide)).trans b0, (lo 1 (by decide)).trans b1, (lo 2 (by decide)).trans b2, (lo 3 (by decide)).trans b3, (lo 4 (by decide)).trans b4, (lo 5 (by decide)).trans b5, (lo 6 (by decide)).trans b6, (lo 7 (by decide)).trans b7, (lo 8 (by decide)).trans b8, (lo 9 (by decide)).trans b9, (lo 10 (by decide)).trans b10, (lo 11 (by decide)).trans b11, rfl⟩, fun i hi => ?_, c0, c1, c2, c3, c4, c5, c6, c7, c8, c9, c10, c11, c12, c13, c14, c15, c16, ?_⟩, hr⟩
      · replace hi : (i : Int) < (σ.1 30 + 1).toInt := hi
        rw [ei] at hi
        show upd (upd (upd (μ.2.1 0) (13 + 2 * d) (μ.2.1 0 0)) (14 + 2 * d) (σ.1 25)) 12 (σ.1 30 + 1) (13 + 2 * i) = upd (σ.2.1 1) d (σ.1 24) i ∧ upd (upd (upd (μ.2.1 0) (13 + 2 * d) (μ.2.1 0 0)) (14 + 2 * d) (σ.1 25)) 12 (σ.1 30 + 1) (14 + 2 * i) = upd (σ.2.1 2) d (σ.1 25) i
        by_cases q : i = d
        · subst q
          rw [upd_ne (by omega), upd_ne (by omega), upd_eq, upd_eq, upd_ne (by omega), upd_eq, upd_eq, b0]
          exact ⟨rfl, rfl⟩
        · rw [upd_ne (by omega), upd_ne (by omega), upd_ne (by omega), upd_ne q, upd_ne (by omega), upd_ne (by omega), upd_ne (by omega), upd_ne q]
          exact hst i (by omega)
      · show bd (σ.1 30 + 1) 0 20
        unfold bd
        rw [ei]
        omega
  · rw [if_neg e0, if_neg e0]
    by_cases e1 : k = 1
    · rw [if_pos e1, if_pos e1]
      by_cases hc : σ.1 30 ≤ 0
      · rw [if_pos hc, if_pos hc]
        exact KK.o h0
      · rw [if_neg hc, if_neg hc]
        rw [le32, z0] at hc
        obtain ⟨d, ed⟩ : ∃ d : Nat, (σ.1 30).toInt = (d : Int) + 1 := ⟨((σ.1 30).toInt - 1).toNat, by omega⟩
        have ei : (σ.1 30 - 1).toInt = (d : Int) := by rw [i32sub (by omega) (by omega), z1]; omega
        have k0 : (σ.1 30 - 1).toNatClampNeg = d := clampE ei
        have k11 : (11 + 2 * σ.1 30).toNatClampNeg = 13 + 2 * d := clampE (by rw [i32add (by omega) (by omega), em, z11]; omega)
        have k12 : (12 + 2 * σ.1 30).toNatClampNeg = 14 + 2 * d := clampE (by rw [i32add (by omega) (by omega), em, z12]; omega)
        rw [k11, k12]
        obtain ⟨s1, s2⟩ := hst d (by omega)
        have hp : PP n m (upS σ 30 (σ.1 30 - 1)) (upA μ 0 12 (σ.1 30 - 1)) := by
          refine ⟨⟨⟨a1, a2, a3, a4, a5⟩, ⟨b0, b1, b2, b3, b4, b5, b6, b7, b8, b9, b10, b11, rfl⟩, fun i hi => ?_, c0, c1, c2, c3, c4, c5, c6, c7, c8, c9, c10, c11, c12, c13, c14, c15, c16, ?_⟩, hr⟩
          · replace hi : (i : Int) < (σ.1 30 - 1).toInt := hi
            rw [ei] at hi
            exact stk_up (by decide) hst i (by omega)
          · show bd (σ.1 30 - 1) 0 20
            unfold bd
            rw [ei]
            omega
        refine KK.o (PP.setY (PP.setX hp ?_) ?_)
        · show (upd (μ.2.1 0) 12 (σ.1 30 - 1) (13 + 2 * d)).toInt64 = (σ.2.1 1 (σ.1 30 - 1).toNatClampNeg).toInt64
          rw [upd_ne (by omega), s1, k0]
        · show (upd (upd (μ.2.1 0) 12 (σ.1 30 - 1)) 0 _ (14 + 2 * d)).toInt64 = (σ.2.1 2 (σ.1 30 - 1).toNatClampNeg).toInt64
          rw [upd_ne (by omega), upd_ne (by omega), s2, k0]
    · rw [if_neg e1, if_neg e1]
      exact KK.o h0
/-- cursor commands: across by a unit, down by a unit -/
theorem PP.acr {n m : Int} {σ μ : PS} {V U : Int64} (h : PP n m σ μ) (hs : μ.1 14 = σ.1 4) (hV : σ.1 4 = 0 → V = (σ.1 2).toInt64) : PP n m (f_X7_goAcross σ U) (if (μ.1 14) = 0 then f_X8_setX μ ((V * U) / 10000) else f_X8_setX μ ((Int32.toInt64 (μ.2.1 0 0)) + (((Int32.toInt64 (σ.1 2)) * U) / 10000))) := by
  have b0 : μ.2.1 0 0 = σ.1 24 := h.1.2.1.1
  unfold f_X7_goAcross g_X7_goAcross_21
  try dsimp only
  rw [hs, b0]
  refine ite2 (P := PP n m) Iff.rfl (fun hc _ => h.setX ?_) (fun _ _ => h.setX rfl)
  rw [hV hc]
  have : Int32.toInt64 0 = 0 := rfl
  rw [this, Int64.zero_add]
theorem PP.dwn {n m : Int} {σ μ : PS} {V U : Int64} {s t : Int32} (h : PP n m σ μ) (hs : μ.1 14 = σ.1 4) (hV : σ.1 4 = 0 → V = (σ.1 2).toInt64) (et : t = s) : PP n m (f_X7_goDown σ s U) (if (μ.1 14) = 0 then f_X8_setY μ ((Int32.toInt64 t) + ((V * U) / 10000)) else f_X8_setY μ ((Int32.toInt64 (μ.2.1 0 1)) + (((Int32.toInt64 (σ.1 2)) * U) / 10000))) := by
  have b1 : μ.2.1 0 1 = σ.1 25 := h.1.2.1.2.1
  unfold f_X7_goDown g_X7_goDown_21
  try dsimp only
  rw [hs, b1]
  refine ite2 (P := PP n m) Iff.rfl (fun hc _ => h.setY ?_) (fun _ _ => h.setY rfl)
  rw [hV hc, et]
