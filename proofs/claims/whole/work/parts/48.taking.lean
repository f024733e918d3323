/-! the pure relation, part 9: taking and reading what is handed on -/
def Fq7 (σ τ : PS) : Prop := (∀ k : Nat, (k < 35 ∨ 39 ≤ k) → τ.1 k = σ.1 k) ∧ τ.2 = σ.2
def Fq8 (σ τ : PS) : Prop := (∀ k : Nat, (k ≠ 0 ∧ k ≠ 29 ∧ k ≠ 31) → τ.1 k = σ.1 k) ∧ (∀ j : Nat, (j ≠ 6 ∧ j ≠ 7) → τ.2.1 j = σ.2.1 j)
theorem take33 : ∀ (n : Nat) (τ : PS) (a y : Int32) (na k T : Nat), a.toInt = (na : Int) → y.toInt = (k : Int) → (τ.1 31).toInt = (T : Int) → na ≤ k → k ≤ T → T ≤ 4096 → T < n + k → ∃ ρ : PS, g_X8_take_33 n τ a y = g_X8_take_83 113 (upS (upS ρ 31 (ρ.1 31 - a)) 29 (ρ.1 29 - 1)) 0 ∧ ρ.1 = τ.1 ∧ ρ.2.2 = τ.2.2 ∧ (∀ j : Nat, j ≠ 7 → ρ.2.1 j = τ.2.1 j) ∧ (∀ i : Nat, i + na < k → ρ.2.1 7 i = τ.2.1 7 i) ∧ (∀ i : Nat, k ≤ i + na → i + na < T → ρ.2.1 7 i = vp_nar .byte (τ.2.1 7 (i + na)))
  | 0, τ, a, y, na, k, T, ha, hy, hT, h1, h2, h3, h4 => absurd h4 (by omega)
  | n + 1, τ, a, y, na, k, T, ha, hy, hT, h1, h2, h3, h4 => by
    unfold g_X8_take_33
    try dsimp only
    have z1 : (1 : Int32).toInt = 1 := rfl
    by_cases hc : τ.1 31 ≤ y
    · rw [if_pos hc]
      rw [le32, hT, hy] at hc
      exact ⟨τ, rfl, rfl, rfl, fun _ _ => rfl, fun _ _ => rfl, fun i q1 q2 => by omega⟩
    · rw [if_neg hc]
      rw [le32, hT, hy] at hc
      have ki : (y - a).toNatClampNeg = k - na := clampE (by rw [i32sub (by omega) (by omega), ha, hy]; omega)
      have ky : y.toNatClampNeg = k := clampE hy
      rw [ki, ky]
      obtain ⟨ρ, e, r1, r2, r3, r4, r5⟩ := take33 n (upA τ 7 (k - na) (vp_nar .byte (τ.2.1 7 k))) a (y + 1) na (k + 1) T ha (by rw [i32add (by omega) (by omega), hy, z1]; omega) hT (by omega) (by omega) h3 (by omega)
      refine ⟨ρ, e, r1, r2, fun j hj => (r3 j hj).trans (up_ne hj), fun i hi => ?_, fun i q1 q2 => ?_⟩
      · rw [r4 i (by omega)]
        exact upd_ne (f := τ.2.1 7) (by omega)
      · by_cases q : i + na = k
        · rw [r4 i (by omega)]
          have : i = k - na := by omega
          subst this
          rw [q]
          exact upd_eq (f := τ.2.1 7)
        · rw [r5 i (by omega) q2]
          exact congrArg (vp_nar .byte) (upd_ne (f := τ.2.1 7) (by omega))
theorem take83 : ∀ (n : Nat) (τ : PS) (y : Int32) (k o : Nat), y.toInt = (k : Int) → (τ.1 29).toInt = (o : Int) → k ≤ 7 * o → o ≤ 15 → 7 * o < n + k → ∃ ρ : PS, g_X8_take_83 n τ y = (ρ, 1) ∧ ρ.1 = τ.1 ∧ ρ.2.2 = τ.2.2 ∧ (∀ j : Nat, j ≠ 6 → ρ.2.1 j = τ.2.1 j) ∧ (∀ i : Nat, i < k → ρ.2.1 6 i = τ.2.1 6 i) ∧ (∀ i : Nat, k ≤ i → i < 7 * o → ρ.2.1 6 i = τ.2.1 6 (i + 7)) ∧ (∀ i : Nat, 7 * o ≤ i → ρ.2.1 6 i = τ.2.1 6 i)
  | 0, τ, y, k, o, hy, ho, h1, h2, h3 => absurd h3 (by omega)
  | n + 1, τ, y, k, o, hy, ho, h1, h2, h3 => by
    unfold g_X8_take_83
    try dsimp only
    have z1 : (1 : Int32).toInt = 1 := rfl
    have z7 : (7 : Int32).toInt = 7 := rfl
    have em : (7 * τ.1 29).toInt = 7 * (o : Int) := by rw [i32mul (by rw [z7]; omega) (by rw [z7]; omega), z7, ho]
    by_cases hc : 7 * τ.1 29 ≤ y
    · rw [if_pos hc]
      rw [le32, em, hy] at hc
      exact ⟨τ, rfl, rfl, rfl, fun _ _ => rfl, fun _ _ => rfl, fun i q1 q2 => by omega, fun _ _ => rfl⟩
    · rw [if_neg hc]
      rw [le32, em, hy] at hc
      have k7 : (y + 7).toNatClampNeg = k + 7 := clampE (by rw [i32add (by omega) (by omega), hy, z7]; omega)
      have ky : y.toNatClampNeg = k := clampE hy
      rw [k7, ky]
      obtain ⟨ρ, e, r1, r2, r3, r4, r5, r6⟩ := take83 n (upA τ 6 k (τ.2.1 6 (k + 7))) (y + 1) (k + 1) o (by rw [i32add (by omega) (by omega), hy, z1]; omega) ho (by omega) h2 (by omega)
      refine ⟨ρ, e, r1, r2, fun j hj => (r3 j hj).trans (up_ne hj), fun i hi => ?_, fun i q1 q2 => ?_, fun i q1 => ?_⟩
      · rw [r4 i (by omega)]
        exact upd_ne (f := τ.2.1 6) (by omega)
      · by_cases q : i = k
        · subst q
          rw [r4 i (by omega)]
          exact upd_eq (f := τ.2.1 6)
        · rw [r5 i (by omega) q2]
          exact upd_ne (f := τ.2.1 6) (by omega)
      · rw [r6 i q1]
        exact upd_ne (f := τ.2.1 6) (by omega)
theorem GQ.firstLe {A12 A13 A14 A15 A16 A17 A18 B : Nat → Int32} {d f t : Nat} (hr : ∀ i : Nat, i < d + 1 → RowQ A12 A13 A14 A15 A16 A17 A18 B ((f + i) % 16) i) (hq : sumQ (d + 1) B = t) : 0 ≤ (B 5).toInt ∧ (B 5).toInt ≤ t := by
  have h1 := sumQ_s (B := B) (C := fun x => B (x + 7)) d (fun i hi => by show B (7 * i + 5 + 7) = B (7 * (i + 1) + 5); exact congrArg B (by omega))
  have h2 := sumQ_0 (B := fun x => B (x + 7)) d (fun i hi => by
    obtain ⟨⟨-, -, -, -, -, w5, -⟩, -, w8⟩ := hr (i + 1) (by omega)
    have : B (7 * i + 5 + 7) = B (7 * (i + 1) + 5) := congrArg B (by omega)
    show 0 ≤ (B (7 * i + 5 + 7)).toInt
    rw [this, w5]
    exact w8)
  obtain ⟨⟨-, -, -, -, -, w5, -⟩, -, w8⟩ := hr 0 (by omega)
  replace w5 : B 5 = A17 ((f + 0) % 16) := w5
  refine ⟨by rw [w5]; exact w8, ?_⟩
  omega
theorem GQ.take {σ μ : PS} (h : GQ σ μ) : (f_X7_take σ).2 = (f_X8_take μ).2 ∧ GQ (f_X7_take σ).1 (f_X8_take μ).1 ∧ (∀ dl : Int32, 0 < dl.toInt → LK dl μ → LK dl (f_X8_take μ).1) ∧ Fq7 σ (f_X7_take σ).1 ∧ Fq8 μ (f_X8_take μ).1 := by
  have h0 := h
  obtain ⟨c, f, s, t, ⟨e1, e2, e3, e4⟩, ⟨m1, m2⟩, ⟨c1, c2, c3, c4⟩, hr, hs, hq, h50⟩ := h
  have z0 : (0 : Int32).toInt = 0 := rfl
  have z1 : (1 : Int32).toInt = 1 := rfl
  have fq : Fq8 μ (upS μ 0 0) := ⟨fun k hk => up_ne hk.1, fun _ _ => rfl⟩
  have kf : (σ.1 36).toNatClampNeg = f := clampE e2
  unfold f_X7_take f_X3_removeFirst f_X8_take
  try dsimp only
  rw [m1, kf]
  by_cases hc : σ.1 35 = 0
  · rw [if_pos hc, if_pos hc]
    exact ⟨rfl, h0, fun dl h1 h2 => h2, ⟨fun _ _ => rfl, rfl⟩, fq⟩
  · rw [if_neg hc, if_neg hc]
    rw [eq32, e1, z0] at hc
    obtain ⟨d, rfl⟩ : ∃ d : Nat, c = d + 1 := ⟨c - 1, by omega⟩
    have hfl := GQ.firstLe hr hq
    obtain ⟨⟨r0, r1, r2, r3, r4, r5, r6⟩, r7, r8⟩ := hr 0 (by omega)
    rw [show (f + 0) % 16 = f by omega] at r0 r1 r2 r3 r4 r5 r6 r7 r8
    replace r5 : μ.2.1 6 5 = σ.2.1 17 f := r5
    replace r6 : μ.2.1 6 6 = σ.2.1 18 f := r6
    rw [r6]
    by_cases hd : σ.2.1 18 f ≤ 0
    · rw [if_pos hd, if_pos hd]
      obtain ⟨na, ena⟩ : ∃ na : Nat, (μ.2.1 6 5).toInt = (na : Int) := ⟨(μ.2.1 6 5).toInt.toNat, by omega⟩
      obtain ⟨ρ, g1, g2, g3, g4, g5, g6⟩ := take33 4097 (upS μ 0 0) (μ.2.1 6 5) (μ.2.1 6 5) na na t ena ena (by show (μ.1 31).toInt = _; rw [m2, e4]) (by omega) (by omega) c4 (by omega)
      have ed : (σ.1 35 - 1).toInt = (d : Int) := by rw [i32sub (by omega) (by omega), e1, z1]; omega
      have q29 : ρ.1 29 = σ.1 35 := by rw [g2]; exact m1
      have q31 : ρ.1 31 = σ.1 38 := by rw [g2]; exact m2
      obtain ⟨ν, k1, k2, k3, k4, k5, k6, k7⟩ := take83 113 (upS (upS ρ 31 (ρ.1 31 - μ.2.1 6 5)) 29 (ρ.1 29 - 1)) 0 0 d rfl (by show (ρ.1 29 - 1).toInt = _; rw [q29, ed]) (by omega) (by omega) (by omega)
      rw [g1, k1]
      have b6 : ∀ x : Nat, ρ.2.1 6 x = μ.2.1 6 x := fun x => by rw [g4 6 (by decide)]; rfl
      have ea : (σ.1 37 + σ.2.1 17 f).toInt = ((s + na : Nat) : Int) := by rw [← r5, i32add (by omega) (by omega), e3, ena]; omega
      have ks := (remN ea (m := 4096) (k := 4096) rfl).2
      have ef : (σ.1 36 + 1).toInt = ((f + 1 : Nat) : Int) := by rw [i32add (by omega) (by omega), e2, z1]; omega
      have kf2 := (remN ef (m := 16) (k := 16) rfl).2
      have et : (σ.1 38 - σ.2.1 17 f).toInt = ((t - na : Nat) : Int) := by rw [← r5, i32sub (by omega) (by omega), e4, ena]; omega
      have n7 : ∀ x : Nat, x < 7 * d → ν.2.1 6 x = μ.2.1 6 (x + 7) := fun x hx => (k6 x (by omega) hx).trans (b6 (x + 7))
      refine ⟨rfl, ⟨d, (f + 1) % 16, (s + na) % 4096, t - na, ⟨ed, kf2, ks, et⟩, ⟨?_, ?_⟩, ⟨by omega, by omega, by omega, by omega⟩, fun i hi => ?_, fun i hi => ?_, ?_, ?_⟩, fun dl h1 h2 => ?_, ⟨fun k hk => ?_, rfl⟩, ⟨fun k hk => ?_, fun j hj => ?_⟩⟩
      · show ν.1 29 = σ.1 35 - 1
        rw [k2, ← q29]; rfl
      · show ν.1 31 = σ.1 38 - σ.2.1 17 f
        rw [k2, ← q31, ← r5]; rfl
      · show RowQ (σ.2.1 12) (σ.2.1 13) (σ.2.1 14) (σ.2.1 15) (σ.2.1 16) (σ.2.1 17) (σ.2.1 18) (ν.2.1 6) (((f + 1) % 16 + i) % 16) i
        have hw := hr (i + 1) (by omega)
        unfold RowQ at hw ⊢
        rw [n7 _ (by omega), n7 _ (by omega), n7 _ (by omega), n7 _ (by omega), n7 _ (by omega), n7 _ (by omega), n7 _ (by omega)]
        rw [show ((f + 1) % 16 + i) % 16 = (f + (i + 1)) % 16 by omega]
        exact hw
      · show ν.2.1 7 i = σ.2.1 5 (((s + na) % 4096 + i) % 4096) ∧ vp_nar .byte (ν.2.1 7 i) = ν.2.1 7 i
        obtain ⟨w1, w2⟩ := hs (i + na) (by omega)
        have e7 : ν.2.1 7 i = μ.2.1 7 (i + na) := by
          rw [k4 7 (by decide)]
          show ρ.2.1 7 i = _
          rw [g6 i (by omega) (by omega)]
          exact w2
        rw [e7, w2, w1]
        exact ⟨congrArg (σ.2.1 5) (by omega), rfl⟩
      · show sumQ d (ν.2.1 6) = ((t - na : Nat) : Int)
        have := sumQ_s (B := μ.2.1 6) (C := ν.2.1 6) d (fun i hi => (n7 _ (by omega)).trans (congrArg (μ.2.1 6) (by omega)))
        omega
      · show 0 ≤ (ν.2.1 6 5).toInt
        by_cases q : d = 0
        · rw [k7 5 (by omega)]
          show 0 ≤ (ρ.2.1 6 5).toInt
          rw [b6]; exact h50
        · rw [n7 5 (by omega)]
          obtain ⟨⟨-, -, -, -, -, w5, -⟩, -, w8⟩ := hr 1 (by omega)
          replace w5 : μ.2.1 6 12 = _ := w5
          show 0 ≤ (μ.2.1 6 12).toInt
          rw [w5]; exact w8
      · obtain ⟨l1, l2⟩ := h2
        rw [m1, e1] at l2
        replace l2 : μ.2.1 6 (7 * d + 6) = dl := l2
        have en : ν.1 29 = σ.1 35 - 1 := by rw [k2, ← q29]; rfl
        have hd0 : d ≠ 0 := fun q => by
          subst q
          replace l2 : μ.2.1 6 6 = dl := l2
          rw [r6] at l2
          rw [le32, l2, z0] at hd
          omega
        refine ⟨?_, ?_⟩
        · show 1 ≤ (ν.1 29).toInt
          rw [en, ed]; omega
        · show ν.2.1 6 (7 * ((ν.1 29).toInt.toNat - 1) + 6) = dl
          rw [en, ed]
          show ν.2.1 6 (7 * (d - 1) + 6) = dl
          rw [n7 _ (by omega), ← l2]
          exact congrArg (μ.2.1 6) (by omega)
      · show va_up (va_up (va_up (va_up σ.1 37 _) 38 _) 36 _) 35 _ k = σ.1 k
        rw [up_ne (by omega), up_ne (by omega), up_ne (by omega), up_ne (by omega)]
      · show ν.1 k = μ.1 k
        rw [k2]
        show va_up (va_up ρ.1 31 _) 29 _ k = μ.1 k
        rw [up_ne (by omega), up_ne (by omega), g2]
        exact up_ne hk.1
      · show ν.2.1 j = μ.2.1 j
        rw [k4 j hj.1]
        show ρ.2.1 j = μ.2.1 j
        rw [g4 j hj.2]; rfl
    · rw [if_neg hd, if_neg hd]
      exact ⟨rfl, h0, fun dl h1 h2 => h2, ⟨fun _ _ => rfl, rfl⟩, fq⟩
theorem o06 {o : Int32} (h : bd o 0 6) : o = 0 ∨ o = 1 ∨ o = 2 ∨ o = 3 ∨ o = 4 ∨ o = 5 ∨ o = 6 := by
  obtain ⟨h1, h2⟩ := h
  have z0 : (0 : Int32).toInt = 0 := rfl
  have z1 : (1 : Int32).toInt = 1 := rfl
  have z2 : (2 : Int32).toInt = 2 := rfl
  have z3 : (3 : Int32).toInt = 3 := rfl
  have z4 : (4 : Int32).toInt = 4 := rfl
  have z5 : (5 : Int32).toInt = 5 := rfl
  have z6 : (6 : Int32).toInt = 6 := rfl
  simp only [eq32]
  omega
theorem GQ.other {σ μ : PS} {x : Int32} (h : GQ σ μ) : f_X8_thrown (f_X8_other μ x).1 = (f_X7_other σ x).1 ∧ ((f_X7_other σ x).1 = 0 → (f_X7_other σ x).2 = (f_X8_other μ x).2) ∧ ∃ w : Int32, (f_X8_other μ x).1 = upS μ 0 w := by
  obtain ⟨c, f, s, t, ⟨e1, e2, e3, e4⟩, ⟨m1, m2⟩, ⟨c1, c2, c3, c4⟩, hr, hs, hq, h50⟩ := h
  have z0 : (0 : Int32).toInt = 0 := rfl
  have z6 : (6 : Int32).toInt = 6 := rfl
  have kf : (σ.1 36).toNatClampNeg = f := clampE e2
  unfold f_X7_other f_X8_other g_X8_other_22 f_X8_thrown
  rw [m1]
  by_cases hc : σ.1 35 = 0
  · rw [if_pos hc, if_pos hc]
    exact ⟨rfl, fun q => absurd q one_ne, _, rfl⟩
  rw [if_neg hc, if_neg hc]
  rw [eq32, e1, z0] at hc
  by_cases h1 : x < 0
  · rw [if_pos h1, if_pos h1]
    exact ⟨rfl, fun q => absurd q (show ¬ (2 : Int32) = 0 by decide), _, rfl⟩
  rw [if_neg h1, if_neg h1]
  by_cases h2 : x ≤ 6
  · rw [if_pos h2, if_pos h2]
    refine ⟨rfl, fun _ => ?_, _, rfl⟩
    rw [lt32] at h1
    rw [le32] at h2
    obtain ⟨⟨r0, r1, r2, r3, r4, r5, r6⟩, r7, r8⟩ := hr 0 (by omega)
    rw [show (f + 0) % 16 = f by omega] at r0 r1 r2 r3 r4 r5 r6 r7 r8
    unfold f_X3_firstPart
    try dsimp only
    rw [kf]
    rcases o06 (o := x) ⟨by omega, by omega⟩ with rfl | rfl | rfl | rfl | rfl | rfl | rfl
    · exact r0.symm
    · exact r1.symm
    · exact r2.symm
    · exact r3.symm
    · show (if (σ.2.1 16 f) = 0 then 0 else 1) = μ.2.1 6 4
      rw [show μ.2.1 6 4 = σ.2.1 16 f from r4]
      obtain ⟨p1, p2⟩ := r7
      have z1 : (1 : Int32).toInt = 1 := rfl
      by_cases q : σ.2.1 16 f = 0
      · rw [if_pos q, q]
      · rw [if_neg q]
        rw [eq32] at q
        exact i32ext (by omega)
    · exact r5.symm
    · exact r6.symm
  · rw [if_neg h2, if_neg h2]
    exact ⟨rfl, fun q => absurd q (show ¬ (2 : Int32) = 0 by decide), _, rfl⟩
theorem data0 {τ : PS} {x : Int32} (hx : x < 0 ∨ 512 ≤ x) : ∀ (n : Nat) (y : Int32) (k : Nat), y.toInt = (k : Int) → k ≤ 8 → 8 < n + k → g_X8_data_21 n τ x 0 y = (τ, 0)
  | 0, y, k, hy, h1, h2 => absurd h2 (by omega)
  | n + 1, y, k, hy, h1, h2 => by
    have z8 : (8 : Int32).toInt = 8 := rfl
    have z1 : (1 : Int32).toInt = 1 := rfl
    have hz : ((0 : Int64) <<< (Int32.toInt64 8 &&& 63)) ||| (Int32.toInt64 0) = 0 := by decide
    unfold g_X8_data_21
    try dsimp only
    rw [hz]
    by_cases hc : 8 ≤ y
    · rw [if_pos hc]
    · rw [if_neg hc]
      rw [le32] at hc
      have ih := data0 (τ := τ) hx n (y + 1) (k + 1) (by rw [i32add (by omega) (by omega), hy, z1]; omega) (by omega) (by omega)
      by_cases h0 : τ.1 0 = 0
      · rw [if_pos h0]
        rcases hx with q | q
        · rw [if_pos q]; exact ih
        · by_cases q2 : x < 0
          · rw [if_pos q2]; exact ih
          · rw [if_neg q2, if_pos q]; exact ih
      · rw [if_neg h0]
theorem dataL {σ τ : PS} {x : Int32} {f s t : Nat} (e2 : (σ.1 36).toInt = (f : Int)) (e3 : (σ.1 37).toInt = (s : Int)) (hx : 0 ≤ x.toInt ∧ x.toInt ≤ 511) (ht0 : τ.1 0 = 0) (h5 : τ.2.1 6 5 = σ.2.1 17 f) (hle : (τ.2.1 6 5).toInt ≤ t) (c3 : s < 4096) (c4 : t ≤ 4096) (hs : ∀ i : Nat, i < t → τ.2.1 7 i = σ.2.1 5 ((s + i) % 4096)) : ∀ (n : Nat) (acc : Int64) (y z : Int32) (k : Nat), y.toInt = (k : Int) → z.toInt = 8 * x.toInt + (k : Int) → k ≤ 8 → 8 < n + k → (g_X8_data_21 n τ x acc y).1 = τ ∧ g_X3_firstEightBytes_21 n σ x acc z = (g_X8_data_21 n τ x acc y).2
  | 0, acc, y, z, k, hy, hz, h1, h2 => absurd h2 (by omega)
  | n + 1, acc, y, z, k, hy, hz, h1, h2 => by
    have z8 : (8 : Int32).toInt = 8 := rfl
    have z1 : (1 : Int32).toInt = 1 := rfl
    have z0 : (0 : Int32).toInt = 0 := rfl
    have z512 : (512 : Int32).toInt = 512 := rfl
    have kf : (σ.1 36).toNatClampNeg = f := clampE e2
    have em : (8 * x).toInt = 8 * x.toInt := by rw [i32mul (by rw [z8]; omega) (by rw [z8]; omega), z8]
    have em8 : (8 * x + 8).toInt = 8 * x.toInt + 8 := by rw [i32add (by omega) (by omega), em, z8]
    have emy : (8 * x + y).toInt = 8 * x.toInt + k := by rw [i32add (by omega) (by omega), em, hy]
    have ih := fun a => dataL e2 e3 hx ht0 h5 hle c3 c4 hs n a (y + 1) (z + 1) (k + 1)
    unfold g_X8_data_21 g_X3_firstEightBytes_21
    try dsimp only
    rw [kf, ht0, if_pos rfl, if_neg (show ¬ x < 0 by rw [lt32]; omega), if_neg (show ¬ (512 : Int32) ≤ x by rw [le32]; omega)]
    by_cases hc : 8 ≤ y
    · rw [if_pos hc]
      rw [le32] at hc
      rw [if_pos (show 8 * x + 8 ≤ z by rw [le32, em8, hz]; omega)]
      exact ⟨rfl, rfl⟩
    · rw [if_neg hc]
      rw [le32] at hc
      rw [if_neg (show ¬ 8 * x + 8 ≤ z by rw [le32, em8, hz]; omega)]
      have ey1 : (y + 1).toInt = ((k + 1 : Nat) : Int) := by rw [i32add (by omega) (by omega), hy, z1]; omega
      have ez1 : (z + 1).toInt = 8 * x.toInt + ((k + 1 : Nat) : Int) := by rw [i32add (by omega) (by omega), hz, z1]; omega
      by_cases hd : τ.2.1 6 5 ≤ 8 * x + y
      · rw [if_pos hd]
        rw [le32, emy] at hd
        rw [if_pos (show σ.2.1 17 f ≤ z by rw [← h5, le32, hz]; omega)]
        exact ih _ ey1 ez1 (by omega) (by omega)
      · rw [if_neg hd]
        rw [le32, emy] at hd
        rw [if_neg (show ¬ σ.2.1 17 f ≤ z by rw [← h5, le32, hz]; omega)]
        obtain ⟨j, ej⟩ : ∃ j : Nat, 8 * x.toInt + k = (j : Int) := ⟨(8 * x.toInt + k).toNat, by omega⟩
        have kj : (8 * x + y).toNatClampNeg = j := clampE (by rw [emy, ej])
        have ea : (σ.1 37 + z).toInt = ((s + j : Nat) : Int) := by rw [i32add (by omega) (by omega), e3, hz]; omega
        have ks := (remN ea (m := 4096) (k := 4096) rfl).1
        rw [kj, ks, hs j (by omega)]
        exact ih _ ey1 ez1 (by omega) (by omega)
theorem GQ.data {σ μ : PS} {x : Int32} (h : GQ σ μ) : f_X8_thrown (f_X8_data μ x).1 = (f_X7_data σ x).1 ∧ ((f_X7_data σ x).1 = 0 → (f_X7_data σ x).2 = (f_X8_data μ x).2) ∧ ∃ w : Int32, (f_X8_data μ x).1 = upS μ 0 w := by
  obtain ⟨c, f, s, t, ⟨e1, e2, e3, e4⟩, ⟨m1, m2⟩, ⟨c1, c2, c3, c4⟩, hr, hs, hq, h50⟩ := h
  have z0 : (0 : Int32).toInt = 0 := rfl
  have z8 : (8 : Int32).toInt = 8 := rfl
  have z512 : (512 : Int32).toInt = 512 := rfl
  unfold f_X7_data f_X8_data f_X8_thrown
  rw [m1]
  by_cases hc : σ.1 35 = 0
  · rw [if_pos hc, if_pos hc]
    have e : (g_X8_data_21 9 (upS μ 0 1) x 0 0) = (upS μ 0 1, 0) := by
      unfold g_X8_data_21
      try dsimp only
      rw [if_neg (by decide), if_neg (show ¬ (upS μ 0 1).1 0 = 0 from one_ne)]
    rw [e]
    exact ⟨rfl, fun q => absurd q one_ne, _, rfl⟩
  rw [if_neg hc, if_neg hc]
  rw [eq32, e1, z0] at hc
  obtain ⟨d, rfl⟩ : ∃ d : Nat, c = d + 1 := ⟨c - 1, by omega⟩
  have hfl := GQ.firstLe hr hq
  obtain ⟨⟨r0, r1, r2, r3, r4, r5, r6⟩, r7, r8⟩ := hr 0 (by omega)
  rw [show (f + 0) % 16 = f by omega] at r0 r1 r2 r3 r4 r5 r6 r7 r8
  unfold f_X3_firstEightBytes
  try dsimp only
  by_cases h1 : x < 0
  · rw [if_pos h1, data0 (Or.inl h1) 9 0 0 rfl (by omega) (by omega)]
    exact ⟨rfl, fun _ => rfl, _, rfl⟩
  rw [if_neg h1]
  by_cases h2 : x < 512
  · rw [if_pos h2]
    rw [lt32] at h1 h2
    have em : (8 * x).toInt = 8 * x.toInt := by rw [i32mul (by rw [z8]; omega) (by rw [z8]; omega), z8]
    obtain ⟨w1, w2⟩ := dataL (σ := σ) (τ := upS μ 0 0) (x := x) e2 e3 ⟨by omega, by omega⟩ rfl r5 hfl.2 c3 c4 (fun i hi => (hs i hi).1) 9 0 0 (8 * x) 0 rfl (by rw [em]; omega) (by omega) (by omega)
    rw [w1]
    exact ⟨rfl, fun _ => w2, _, rfl⟩
  · rw [if_neg h2]
    rw [data0 (Or.inr (by rw [lt32] at h2; rw [le32]; omega)) 9 0 0 rfl (by omega) (by omega)]
    exact ⟨rfl, fun _ => rfl, _, rfl⟩
