/-! the pure relation, part 5: commands -/
def KK (n m : Int) (p q : PS × Int32) : Prop := (p.2 = 0 ↔ q.2 = 0) ∧ PP n m p.1 q.1
theorem KK.z {n m : Int} {σ μ : PS} (h : PP n m σ μ) : KK n m (σ, 0) (μ, 0) := ⟨Iff.rfl, h⟩
theorem KK.o {n m : Int} {σ μ : PS} (h : PP n m σ μ) : KK n m (σ, 1) (μ, 1) := ⟨Iff.rfl, h⟩
theorem upA_same {μ : PS} {j i : Nat} : upA μ j i (μ.2.1 j i) = μ := by
  unfold upA
  refine Prod.ext rfl (Prod.ext ?_ rfl)
  funext a
  show va_up μ.2.1 j (upd (μ.2.1 j) i (μ.2.1 j i)) a = μ.2.1 a
  unfold va_up
  split
  · rename_i q
    subst q
    funext b
    unfold upd
    split
    · rename_i q; rw [q]
    · rfl
  · rfl
theorem t32 (k : Int32) : k.toInt64.toInt32 = k := by
  apply i32ext
  have := i32r k
  rw [tI32 (by rw [i64I]; omega) (by rw [i64I]; omega), i64I]
theorem sizE {k : Int32} (hk : bd k 0 32767) : (f_X4_isSize k.toInt64 = 0 ↔ f_X8_across k ≤ 0) ∧ (¬ f_X4_isSize k.toInt64 = 0 → szOk k) := by
  have hq : ∀ c : Int64, ∀ d : Int32, c = d.toInt64 → (k.toInt64 = c ↔ k = d) := fun c d e => by
    subst e
    rw [eq64, i64I, i64I, eq32]
  unfold f_X4_isSize f_X8_across szOk
  simp only [hq 1 1 rfl, hq 2 2 rfl, hq 3 3 rfl, hq 6 6 rfl, hq 26 26 rfl]
  by_cases e1 : k = 1
  · subst e1; exact ⟨by decide, by decide⟩
  by_cases e2 : k = 2
  · subst e2; exact ⟨by decide, by decide⟩
  by_cases e3 : k = 3
  · subst e3; exact ⟨by decide, by decide⟩
  by_cases e6 : k = 6
  · subst e6; exact ⟨by decide, by decide⟩
  by_cases e26 : k = 26
  · subst e26; exact ⟨by decide, by decide⟩
  rw [if_neg e1, if_neg e2, if_neg e3, if_neg e6, if_neg e26, if_neg e1, if_neg e2, if_neg e3, if_neg e6, if_neg e26]
  exact ⟨⟨fun _ => by decide, fun _ => rfl⟩, fun q => absurd rfl q⟩
theorem PP.chSize {n m : Int} {σ μ : PS} {k : Int32} (hm : m ≤ 1000000) (h : PP n m σ μ) (hs : szOk k) : PP n (m + 1) (f_X7_changePaper σ k (σ.1 14)) (f_X8_defaults (upS (f_X8_ejectIfDue μ) 4 k)) := by
  have h1 := h.ejectIfDue hm
  unfold f_X7_changePaper
  try dsimp only
  by_cases q : f_X6_isDue σ = 0
  · rw [if_pos q] at h1 ⊢
    exact h1.size hs
  · rw [if_neg q] at h1 ⊢
    exact h1.size hs
theorem PP.chOrient {n m : Int} {σ μ : PS} {k : Int32} (hm : m ≤ 1000000) (h : PP n m σ μ) (hs : bd k 0 3) : PP n (m + 1) (f_X7_changePaper σ (σ.1 13) k) (f_X8_defaults (upS (f_X8_ejectIfDue μ) 5 k)) := by
  have h1 := h.ejectIfDue hm
  unfold f_X7_changePaper
  try dsimp only
  by_cases q : f_X6_isDue σ = 0
  · rw [if_pos q] at h1 ⊢
    exact h1.orient hs
  · rw [if_neg q] at h1 ⊢
    exact h1.orient hs
theorem mul64 {a b : Int32} (ha : bd a 0 32768) (hb : bd b 0 1966080) : (a.toInt64 * b.toInt64).toInt = a.toInt * b.toInt ∧ 0 ≤ a.toInt * b.toInt ∧ a.toInt * b.toInt ≤ 64424509440 := by
  obtain ⟨a1, a2⟩ := ha
  obtain ⟨b1, b2⟩ := hb
  have h1 := Int.mul_nonneg a1 b1
  have h2 : a.toInt * b.toInt ≤ 32768 * 1966080 := Int.mul_le_mul a2 b2 b1 (by decide)
  refine ⟨?_, h1, by omega⟩
  rw [i64mul (by rw [i64I, i64I]; omega) (by rw [i64I, i64I]; omega), i64I, i64I]
/-- a product that is small enough, in both widths -/
theorem mul32 {a b : Int32} (ha : bd a 0 32768) (hb : bd b 0 1966080) (h : a.toInt * b.toInt ≤ 2147483647) : (a.toInt64 * b.toInt64).toInt32 = a * b ∧ (a * b).toInt = a.toInt * b.toInt := by
  obtain ⟨e, e1, e2⟩ := mul64 ha hb
  have e3 : (a * b).toInt = a.toInt * b.toInt := i32mul (by omega) h
  refine ⟨i32ext ?_, e3⟩
  rw [tI32 (by omega) (by omega), e, e3]
theorem PP.stepDown {n m : Int} {σ μ : PS} {V : Int64} (h : PP n m σ μ) (hV : 0 ≤ V.toInt) : PP n m (f_X7_setStepDown σ V) (if (Int32.toInt64 (μ.1 8)) < V then (upA μ 0 7 (μ.2.1 0 7)) else (upA μ 0 7 (Int64.toInt32 V))) := by
  obtain ⟨⟨a1, a2, a3, a4, a5⟩, ⟨b0, b1, b2, b3, b4, b5, b6, b7, b8, b9, b10, b11, b12⟩, hst, c0, c1, c2, c3, c4, c5, c6, c7, c8, c9, c10, c11, c12, c13, c14, c15, c16, c17⟩ := h.1
  unfold f_X7_setStepDown
  rw [a5, upA_same]
  refine ite2 (P := PP n m) Iff.rfl (fun _ _ => h) (fun hc _ => ⟨h.1.sV rfl ?_, h.2⟩)
  rw [lt64, i64I] at hc
  have := c4.2
  unfold bd
  rw [tI32 (by omega) (by omega)]
  omega
theorem PP.lines {n m : Int} {σ μ : PS} {k : Int32} (h : PP n m σ μ) : PP n m (f_X7_setLinesPerInch σ k) (if (f_X8_divides k) = 0 then (upA μ 0 7 (μ.2.1 0 7)) else (if k = 0 then (upA μ 0 7 (7200 / 1)) else (upA μ 0 7 (7200 / k)))) := by
  unfold f_X7_setLinesPerInch f_X8_divides
  rw [upA_same]
  by_cases e1 : k = 1
  · subst e1
    exact ⟨h.1.sV rfl ⟨by decide, by decide⟩, h.2⟩
  by_cases e2 : k = 2
  · subst e2
    exact ⟨h.1.sV rfl ⟨by decide, by decide⟩, h.2⟩
  by_cases e3 : k = 3
  · subst e3
    exact ⟨h.1.sV rfl ⟨by decide, by decide⟩, h.2⟩
  by_cases e4 : k = 4
  · subst e4
    exact ⟨h.1.sV rfl ⟨by decide, by decide⟩, h.2⟩
  by_cases e6 : k = 6
  · subst e6
    exact ⟨h.1.sV rfl ⟨by decide, by decide⟩, h.2⟩
  by_cases e8 : k = 8
  · subst e8
    exact ⟨h.1.sV rfl ⟨by decide, by decide⟩, h.2⟩
  by_cases e12 : k = 12
  · subst e12
    exact ⟨h.1.sV rfl ⟨by decide, by decide⟩, h.2⟩
  by_cases e16 : k = 16
  · subst e16
    exact ⟨h.1.sV rfl ⟨by decide, by decide⟩, h.2⟩
  by_cases e24 : k = 24
  · subst e24
    exact ⟨h.1.sV rfl ⟨by decide, by decide⟩, h.2⟩
  by_cases e48 : k = 48
  · subst e48
    exact ⟨h.1.sV rfl ⟨by decide, by decide⟩, h.2⟩
  rw [if_neg e1, if_neg e2, if_neg e3, if_neg e4, if_neg e6, if_neg e8, if_neg e12, if_neg e16, if_neg e24, if_neg e48, if_neg e1, if_neg e2, if_neg e3, if_neg e4, if_neg e6, if_neg e8, if_neg e12, if_neg e16, if_neg e24, if_neg e48, if_pos rfl]
  exact h
theorem PP.top {n m : Int} {σ μ : PS} {k : Int32} (h : PP n m σ μ) (hk : bd k 0 32768) : KK n m (f_X7_setTop σ (k.toInt64 * (Int32.toInt64 (σ.1 23))), 1) (if (Int32.toInt64 (μ.1 8)) < ((Int32.toInt64 k) * (Int32.toInt64 (μ.2.1 0 7))) then (μ, 1) else (if 0 ≤ (((μ.1 8) - (k * (μ.2.1 0 7))) - 3600) then ((upA (upA μ 0 4 (k * (μ.2.1 0 7))) 0 5 (((μ.1 8) - (k * (μ.2.1 0 7))) - 3600)), 1) else ((upA (upA μ 0 4 (k * (μ.2.1 0 7))) 0 5 0), 1))) := by
  obtain ⟨⟨a1, a2, a3, a4, a5⟩, ⟨b0, b1, b2, b3, b4, b5, b6, b7, b8, b9, b10, b11, b12⟩, hst, c0, c1, c2, c3, c4, c5, c6, c7, c8, c9, c10, c11, c12, c13, c14, c15, c16, c17⟩ := h.1
  unfold f_X7_setTop
  rw [a5, b7]
  obtain ⟨e1, e2, e3⟩ := mul64 hk (b := σ.1 23) ⟨c10.1, by have := c10.2; omega⟩
  have p1 := c4.1
  have p2 := c4.2
  by_cases hc : (σ.1 17).toInt64 < k.toInt64 * (σ.1 23).toInt64
  · rw [if_pos hc, if_pos hc]
    exact KK.o h
  · rw [if_neg hc, if_neg hc]
    rw [lt64, i64I, e1] at hc
    obtain ⟨f1, f2⟩ := mul32 hk (b := σ.1 23) ⟨c10.1, by have := c10.2; omega⟩ (by omega)
    rw [f1]
    generalize hz : k.toInt * (σ.1 23).toInt = Z at e1 e2 e3 hc f2
    have z3 : (3600 : Int32).toInt = 3600 := rfl
    have y3 : (3600 : Int64).toInt = 3600 := rfl
    have z0 : (0 : Int32).toInt = 0 := rfl
    have g1 : (σ.1 17 - k * σ.1 23).toInt = (σ.1 17).toInt - Z := by rw [i32sub (by omega) (by omega), f2]
    have g2 : (σ.1 17 - k * σ.1 23 - 3600).toInt = (σ.1 17).toInt - Z - 3600 := by rw [i32sub (by omega) (by omega), g1, z3]
    have g3 : ((σ.1 17).toInt64 - k.toInt64 * (σ.1 23).toInt64).toInt = (σ.1 17).toInt - Z := by rw [i64sub (by rw [i64I]; omega) (by rw [i64I]; omega), i64I, e1]
    have g4 : ((σ.1 17).toInt64 - k.toInt64 * (σ.1 23).toInt64 - 3600).toInt = (σ.1 17).toInt - Z - 3600 := by rw [i64sub (by omega) (by omega), g3, y3]
    have hb : bd (k * σ.1 23) 0 130000 := by unfold bd; rw [f2]; omega
    rw [win_eq]
    by_cases hd : 0 ≤ σ.1 17 - k * σ.1 23 - 3600
    · rw [if_pos hd]
      rw [le32, g2, z0] at hd
      refine KK.o ⟨(h.1.sTop rfl hb).sLen ?_ ?_, h.2⟩
      · apply i32ext
        rw [win_I (by omega), g4, if_pos (by omega), if_pos (by omega), g2]
      · unfold bd
        rw [win_I (by omega), g4, if_pos (by omega), if_pos (by omega)]
        omega
    · rw [if_neg hd]
      rw [le32, g2, z0] at hd
      refine KK.o ⟨(h.1.sTop rfl hb).sLen ?_ ?_, h.2⟩
      · apply i32ext
        rw [win_I (by omega), g4, if_neg (by omega), z0]
      · unfold bd
        rw [win_I (by omega), g4, if_neg (by omega)]
        omega
theorem PP.len {n m : Int} {σ μ : PS} {k : Int32} (h : PP n m σ μ) (hk : bd k 0 32768) : KK n m (f_X7_setLength σ (k.toInt64 * (Int32.toInt64 (σ.1 23))), 1) (if (Int32.toInt64 (μ.1 8)) < ((Int32.toInt64 (μ.2.1 0 4)) + ((Int32.toInt64 k) * (Int32.toInt64 (μ.2.1 0 7)))) then (μ, 1) else ((upA μ 0 5 (k * (μ.2.1 0 7))), 1)) := by
  obtain ⟨⟨a1, a2, a3, a4, a5⟩, ⟨b0, b1, b2, b3, b4, b5, b6, b7, b8, b9, b10, b11, b12⟩, hst, c0, c1, c2, c3, c4, c5, c6, c7, c8, c9, c10, c11, c12, c13, c14, c15, c16, c17⟩ := h.1
  unfold f_X7_setLength
  rw [a5, b7, b4]
  obtain ⟨e1, e2, e3⟩ := mul64 hk (b := σ.1 23) ⟨c10.1, by have := c10.2; omega⟩
  have p1 := c4.1
  have p2 := c4.2
  have p3 := c5.1
  have p4 := c5.2
  by_cases hc : (σ.1 17).toInt64 < (σ.1 18).toInt64 + k.toInt64 * (σ.1 23).toInt64
  · rw [if_pos hc, if_pos hc]
    exact KK.o h
  · rw [if_neg hc, if_neg hc]
    rw [lt64, i64I, i64add (by rw [i64I, e1]; omega) (by rw [i64I, e1]; omega), i64I, e1] at hc
    obtain ⟨f1, f2⟩ := mul32 hk (b := σ.1 23) ⟨c10.1, by have := c10.2; omega⟩ (by omega)
    rw [f1]
    refine KK.o ⟨h.1.sLen rfl ?_, h.2⟩
    unfold bd
    rw [f2]
    omega
theorem PP.paging {n m : Int} {σ μ : PS} {k : Int32} {V : Int64} (hm : m ≤ 1000000) (h : PP n m σ μ) (hk : bd k 0 32767) (hV : 0 ≤ V.toInt ∧ V.toInt ≤ 327679999) : KK n (m + 1) (f_X7_pageCommand σ V k.toInt64) (f_X8_paging μ (σ.1 3) V k) := by
  obtain ⟨⟨a1, a2, a3, a4, a5⟩, ⟨b0, b1, b2, b3, b4, b5, b6, b7, b8, b9, b10, b11, b12⟩, hst, c0, c1, c2, c3, c4, c5, c6, c7, c8, c9, c10, c11, c12, c13, c14, c15, c16, c17⟩ := h.1
  obtain ⟨k1, k2⟩ := hk
  obtain ⟨v1, v2⟩ := hV
  have hz := KK.z h.w
  have z0 : (0 : Int32).toInt = 0 := rfl
  have z1 : (1 : Int32).toInt = 1 := rfl
  have z2 : (2 : Int32).toInt = 2 := rfl
  have z4 : (4 : Int32).toInt = 4 := rfl
  have z99 : (99 : Int32).toInt = 99 := rfl
  have y1 : (1 : Int64).toInt = 1 := rfl
  have y3 : (3 : Int64).toInt = 3 := rfl
  have y150 : (150 : Int64).toInt = 150 := rfl
  have yt : (10000 : Int64).toInt = 10000 := rfl
  have m1 : (150 * V).toInt = 150 * V.toInt := by rw [i64mul (by rw [y150]; omega) (by rw [y150]; omega), y150]
  have m2 : (150 * V / 10000).toInt = 150 * V.toInt / 10000 := by rw [i64div (by omega) (by omega), m1, yt]
  unfold f_X7_pageCommand f_X8_paging
  try dsimp only
  rw [t32]
  refine ite2 (P := KK n (m + 1)) Iff.rfl (fun _ _ => ?_) (fun _ _ => ?_)
  · refine ite2 (P := KK n (m + 1)) (sizE ⟨k1, k2⟩).1 (fun _ _ => KK.o h.w) (fun hc _ => KK.o (h.chSize hm ((sizE ⟨k1, k2⟩).2 hc)))
  refine ite2 (P := KK n (m + 1)) Iff.rfl (fun _ _ => hz) (fun _ _ => ?_)
  refine ite2 (P := KK n (m + 1)) Iff.rfl (fun _ _ => ?_) (fun _ _ => ?_)
  · have h2 := (h.stepDown (V := 150 * V / 10000) (by rw [m2]; omega)).w
    by_cases q : (μ.1 8).toInt64 < 150 * V / 10000
    · rw [if_pos q] at h2 ⊢; exact KK.o h2
    · rw [if_neg q] at h2 ⊢; exact KK.o h2
  refine ite2 (P := KK n (m + 1)) Iff.rfl (fun _ _ => ?_) (fun _ _ => ?_)
  · have h2 := (h.lines (k := k)).w
    by_cases q : f_X8_divides k = 0
    · rw [if_pos q] at h2 ⊢; exact KK.o h2
    · rw [if_neg q] at h2 ⊢
      by_cases q2 : k = 0
      · rw [if_pos q2] at h2 ⊢; exact KK.o h2
      · rw [if_neg q2] at h2 ⊢; exact KK.o h2
  refine ite2 (P := KK n (m + 1)) Iff.rfl (fun _ _ => ?_) (fun _ _ => ?_)
  · have h2 := h.top (k := k) ⟨k1, by omega⟩
    exact ⟨h2.1, h2.2.w⟩
  refine ite2 (P := KK n (m + 1)) Iff.rfl (fun _ _ => ?_) (fun _ _ => ?_)
  · have h2 := h.len (k := k) ⟨k1, by omega⟩
    exact ⟨h2.1, h2.2.w⟩
  refine ite2 (P := KK n (m + 1)) Iff.rfl (fun _ _ => hz) (fun _ _ => ?_)
  refine ite2 (P := KK n (m + 1)) Iff.rfl (fun _ _ => hz) (fun _ _ => ?_)
  refine ite2 (P := KK n (m + 1)) Iff.rfl (fun _ _ => hz) (fun _ _ => ?_)
  refine ite2 (P := KK n (m + 1)) Iff.rfl (fun _ _ => hz) (fun _ _ => ?_)
  refine ite2 (P := KK n (m + 1)) Iff.rfl (fun _ _ => hz) (fun _ _ => ?_)
  refine ite2 (P := KK n (m + 1)) Iff.rfl (fun _ _ => ?_) (fun _ _ => ?_)
  · by_cases q : (2 : Int32) ≤ k
    · rw [if_pos q, upA_same]
      rw [if_pos (by rw [lt64, i64I]; rw [le32] at q; omega)]
      exact KK.o h.w
    · rw [if_neg q]
      rw [le32] at q
      rw [if_neg (by rw [lt64, i64I]; omega)]
      by_cases q2 : k.toInt64 = 1
      · rw [if_pos q2]
        rw [eq64, i64I] at q2
        exact KK.o (PP.w ⟨h.1.sSkip (i32ext (by omega)) ⟨by decide, by decide⟩, h.2⟩)
      · rw [if_neg q2]
        rw [eq64, i64I] at q2
        exact KK.o (PP.w ⟨h.1.sSkip (i32ext (by omega)) ⟨by decide, by decide⟩, h.2⟩)
  refine ite2 (P := KK n (m + 1)) Iff.rfl (fun _ _ => hz) (fun _ _ => ?_)
  refine ite2 (P := KK n (m + 1)) Iff.rfl (fun _ _ => hz) (fun _ _ => ?_)
  refine ite2 (P := KK n (m + 1)) Iff.rfl (fun _ _ => ?_) (fun _ _ => ?_)
  · refine ite2 (P := KK n (m + 1)) ?_ (fun _ _ => KK.o h.w) (fun hc _ => KK.o (h.chOrient hm ?_))
    · rw [lt64, le32, i64I]; omega
    · rw [lt64, i64I] at hc
      exact ⟨k1, by omega⟩
  refine ite2 (P := KK n (m + 1)) Iff.rfl (fun _ _ => hz) (fun _ _ => ?_)
  refine ite2 (P := KK n (m + 1)) Iff.rfl (fun _ _ => hz) (fun _ _ => ?_)
  refine ite2 (P := KK n (m + 1)) Iff.rfl (fun _ _ => hz) (fun _ _ => ?_)
  refine ite2 (P := KK n (m + 1)) Iff.rfl (fun _ _ => hz) (fun _ _ => ?_)
  refine ite2 (P := KK n (m + 1)) Iff.rfl (fun _ _ => hz) (fun _ _ => ?_)
  refine ite2 (P := KK n (m + 1)) Iff.rfl (fun _ _ => hz) (fun _ _ => ?_)
  refine ite2 (P := KK n (m + 1)) Iff.rfl (fun _ _ => hz) (fun _ _ => ?_)
  refine ite2 (P := KK n (m + 1)) Iff.rfl (fun _ _ => hz) (fun _ _ => ?_)
  refine ite2 (P := KK n (m + 1)) Iff.rfl (fun _ _ => ?_) (fun _ _ => ?_)
  · have e99 : (99 : Int32).toInt64.toInt = 99 := rfl
    have e11 : (1 : Int32).toInt64.toInt = 1 := rfl
    unfold f_X7_within
    by_cases q : (1 : Int32) ≤ k
    · rw [if_pos q]
      rw [if_pos (by rw [le64, e11, i64I]; rw [le32] at q; omega)]
      rw [le32] at q
      by_cases q2 : k ≤ 99
      · rw [if_pos q2]
        rw [if_pos (by rw [le64, e99, i64I]; rw [le32] at q2; omega), t32]
        rw [le32] at q2
        exact KK.o (PP.w ⟨h.1.sCopies rfl ⟨by omega, by omega⟩, h.2⟩)
      · rw [if_neg q2]
        rw [if_neg (by rw [le64, e99, i64I]; rw [le32] at q2; omega)]
        exact KK.o (PP.w ⟨h.1.sCopies rfl ⟨by decide, by decide⟩, h.2⟩)
    · rw [if_neg q]
      rw [if_neg (by rw [le64, e11, i64I]; rw [le32] at q; omega)]
      exact KK.o (PP.w ⟨h.1.sCopies rfl ⟨by decide, by decide⟩, h.2⟩)
  exact hz
