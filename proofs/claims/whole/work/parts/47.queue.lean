/-! the pure relation, part 8: what is handed on -/
def sumQ : Nat → (Nat → Int32) → Int
  | 0, _ => 0
  | n + 1, B => sumQ n B + (B (7 * n + 5)).toInt
theorem sumQ_c {B C : Nat → Int32} : ∀ n : Nat, (∀ i : Nat, i < n → B (7 * i + 5) = C (7 * i + 5)) → sumQ n B = sumQ n C
  | 0, _ => rfl
  | n + 1, h => by
    show sumQ n B + (B (7 * n + 5)).toInt = sumQ n C + (C (7 * n + 5)).toInt
    rw [sumQ_c n (fun i hi => h i (by omega)), h n (by omega)]
theorem sumQ_s {B C : Nat → Int32} : ∀ n : Nat, (∀ i : Nat, i < n → C (7 * i + 5) = B (7 * (i + 1) + 5)) → sumQ (n + 1) B = (B 5).toInt + sumQ n C
  | 0, _ => by
    show 0 + (B 5).toInt = (B 5).toInt + 0
    omega
  | n + 1, h => by
    have ih := sumQ_s n (fun i hi => h i (by omega))
    show sumQ (n + 1) B + (B (7 * (n + 1) + 5)).toInt = (B 5).toInt + (sumQ n C + (C (7 * n + 5)).toInt)
    rw [ih, h n (by omega)]
    omega
theorem sumQ_0 {B : Nat → Int32} : ∀ n : Nat, (∀ i : Nat, i < n → 0 ≤ (B (7 * i + 5)).toInt) → 0 ≤ sumQ n B
  | 0, _ => Int.le_refl _
  | n + 1, h => by
    have ih := sumQ_0 n (fun i hi => h i (by omega))
    have := h n (by omega)
    show 0 ≤ sumQ n B + (B (7 * n + 5)).toInt
    omega
def RowQ (A12 A13 A14 A15 A16 A17 A18 B : Nat → Int32) (j i : Nat) : Prop := (B (7 * i) = A12 j ∧ B (7 * i + 1) = A13 j ∧ B (7 * i + 2) = A14 j ∧ B (7 * i + 3) = A15 j ∧ B (7 * i + 4) = A16 j ∧ B (7 * i + 5) = A17 j ∧ B (7 * i + 6) = A18 j) ∧ bd (A16 j) 0 1 ∧ 0 ≤ (A17 j).toInt
def GQx (cnt first ss st : Int32) (A5 A12 A13 A14 A15 A16 A17 A18 : Nat → Int32) (mo ms : Int32) (B6 B7 : Nat → Int32) (c f s t : Nat) : Prop :=
  (cnt.toInt = c ∧ first.toInt = f ∧ ss.toInt = s ∧ st.toInt = t) ∧ (mo = cnt ∧ ms = st) ∧ (c ≤ 16 ∧ f < 16 ∧ s < 4096 ∧ t ≤ 4096) ∧ (∀ i : Nat, i < c → RowQ A12 A13 A14 A15 A16 A17 A18 B6 ((f + i) % 16) i) ∧ (∀ i : Nat, i < t → B7 i = A5 ((s + i) % 4096) ∧ vp_nar .byte (B7 i) = B7 i) ∧ sumQ c B6 = t ∧ 0 ≤ (B6 5).toInt
def GQ (σ μ : PS) : Prop := ∃ c f s t : Nat, GQx (σ.1 35) (σ.1 36) (σ.1 37) (σ.1 38) (σ.2.1 5) (σ.2.1 12) (σ.2.1 13) (σ.2.1 14) (σ.2.1 15) (σ.2.1 16) (σ.2.1 17) (σ.2.1 18) (μ.1 29) (μ.1 31) (μ.2.1 6) (μ.2.1 7) c f s t
/-- data under way go to the latest row -/
def LK (dl : Int32) (μ : PS) : Prop := 1 ≤ (μ.1 29).toInt ∧ μ.2.1 6 (7 * ((μ.1 29).toInt.toNat - 1) + 6) = dl
theorem upd7 {B : Nat → Int32} {c : Nat} {v0 v1 v2 v3 v4 v5 v6 : Int32} {C : Nat → Int32} (hC : C = upd (upd (upd (upd (upd (upd (upd B (7 * c) v0) (7 * c + 1) v1) (7 * c + 2) v2) (7 * c + 3) v3) (7 * c + 4) v4) (7 * c + 5) v5) (7 * c + 6) v6) : (∀ x : Nat, x < 7 * c → C x = B x) ∧ C (7 * c) = v0 ∧ C (7 * c + 1) = v1 ∧ C (7 * c + 2) = v2 ∧ C (7 * c + 3) = v3 ∧ C (7 * c + 4) = v4 ∧ C (7 * c + 5) = v5 ∧ C (7 * c + 6) = v6 := by
  subst hC
  refine ⟨fun x hx => ?_, ?_, ?_, ?_, ?_, ?_, ?_, ?_⟩
  · rw [upd_ne (by omega), upd_ne (by omega), upd_ne (by omega), upd_ne (by omega), upd_ne (by omega), upd_ne (by omega), upd_ne (by omega)]
  · rw [upd_ne (by omega), upd_ne (by omega), upd_ne (by omega), upd_ne (by omega), upd_ne (by omega), upd_ne (by omega), upd_eq]
  · rw [upd_ne (by omega), upd_ne (by omega), upd_ne (by omega), upd_ne (by omega), upd_ne (by omega), upd_eq]
  · rw [upd_ne (by omega), upd_ne (by omega), upd_ne (by omega), upd_ne (by omega), upd_eq]
  · rw [upd_ne (by omega), upd_ne (by omega), upd_ne (by omega), upd_eq]
  · rw [upd_ne (by omega), upd_ne (by omega), upd_eq]
  · rw [upd_ne (by omega), upd_eq]
  · rw [upd_eq]
theorem remN {a m : Int32} {x k : Nat} (ha : a.toInt = (x : Int)) (hm : m.toInt = (k : Int)) : (a - a / m * m).toNatClampNeg = x % k ∧ (a - a / m * m).toInt = ((x % k : Nat) : Int) := by
  have e : (a - a / m * m).toInt = ((x % k : Nat) : Int) := by
    rw [rem32 (by omega), ha, hm]
    rfl
  exact ⟨clampE e, e⟩
theorem GQ.add {σ μ : PS} {e v : Int32} (h : GQ σ μ) (h0 : μ.1 11 = σ.1 0) (h1 : μ.1 12 = σ.1 1) (h2 : v = σ.1 2) (h3 : e = σ.1 3) (h4 : μ.1 14 = σ.1 4) (b4 : bd (σ.1 4) 0 1) (h5 : μ.1 19 = σ.1 5) : GQ (f_X3_add σ) (f_X8_handOn μ e v) ∧ ((f_X3_add σ = upS σ 39 1 ∧ f_X8_handOn μ e v = μ) ∨ ((f_X3_add σ).1 39 = 0 ∧ (f_X8_handOn μ e v).1 21 = 2 ∧ LK (σ.1 5) (f_X8_handOn μ e v))) := by
  obtain ⟨c, f, s, t, ⟨e1, e2, e3, e4⟩, ⟨m1, m2⟩, ⟨c1, c2, c3, c4⟩, hr, hs, hq, h50⟩ := h
  have z1 : (1 : Int32).toInt = 1 := rfl
  have z2 : (2 : Int32).toInt = 2 := rfl
  have z3 : (3 : Int32).toInt = 3 := rfl
  have z4 : (4 : Int32).toInt = 4 := rfl
  have z5 : (5 : Int32).toInt = 5 := rfl
  have z6 : (6 : Int32).toInt = 6 := rfl
  have z7 : (7 : Int32).toInt = 7 := rfl
  have z16 : (16 : Int32).toInt = 16 := rfl
  by_cases hc : σ.1 35 < 16
  · have hc2 := hc
    rw [lt32, e1, z16] at hc2
    have hc3 : ¬ μ.1 29 = 16 := by rw [m1, eq32, e1, z16]; omega
    have es : (σ.1 36 + σ.1 35).toInt = ((f + c : Nat) : Int) := by rw [i32add (by omega) (by omega), e1, e2]; omega
    have kj := (remN es (m := 16) (k := 16) rfl).1
    have em : (7 * μ.1 29).toInt = ((7 * c : Nat) : Int) := by rw [m1, i32mul (by rw [z7]; omega) (by rw [z7]; omega), z7, e1]; omega
    have k0 : (7 * μ.1 29).toNatClampNeg = 7 * c := clampE em
    have k1 : (7 * μ.1 29 + 1).toNatClampNeg = 7 * c + 1 := clampE (by rw [i32add (by omega) (by omega), em, z1]; omega)
    have k2 : (7 * μ.1 29 + 2).toNatClampNeg = 7 * c + 2 := clampE (by rw [i32add (by omega) (by omega), em, z2]; omega)
    have k3 : (7 * μ.1 29 + 3).toNatClampNeg = 7 * c + 3 := clampE (by rw [i32add (by omega) (by omega), em, z3]; omega)
    have k4 : (7 * μ.1 29 + 4).toNatClampNeg = 7 * c + 4 := clampE (by rw [i32add (by omega) (by omega), em, z4]; omega)
    have k5 : (7 * μ.1 29 + 5).toNatClampNeg = 7 * c + 5 := clampE (by rw [i32add (by omega) (by omega), em, z5]; omega)
    have k6 : (7 * μ.1 29 + 6).toNatClampNeg = 7 * c + 6 := clampE (by rw [i32add (by omega) (by omega), em, z6]; omega)
    have ei : (σ.1 35 + 1).toInt = ((c + 1 : Nat) : Int) := by rw [i32add (by omega) (by omega), e1, z1]; omega
    have hw : f_X8_handOn μ e v = upS (upS (upA (upA (upA (upA (upA (upA (upA μ 6 (7 * c) (σ.1 0)) 6 (7 * c + 1) (σ.1 1)) 6 (7 * c + 2) (σ.1 2)) 6 (7 * c + 3) (σ.1 3)) 6 (7 * c + 4) (σ.1 4)) 6 (7 * c + 5) 0) 6 (7 * c + 6) (σ.1 5)) 29 (σ.1 35 + 1)) 21 2 := by
      unfold f_X8_handOn
      try dsimp only
      rw [if_neg hc3, k0, k1, k2, k3, k4, k5, k6, h0, h1, h2, h3, h5, m1, h4]
      by_cases q : σ.1 4 = 0
      · rw [if_pos q, q]
      · have q1 : σ.1 4 = 1 := by
          obtain ⟨p1, p2⟩ := b4
          have z0 : (0 : Int32).toInt = 0 := rfl
          rw [eq32] at q
          exact i32ext (by omega)
        rw [if_neg q, q1]
    have hv : f_X3_add σ = upS (upA (upA (upA (upA (upA (upA (upA (upS σ 39 0) 12 ((f + c) % 16) (σ.1 0)) 13 ((f + c) % 16) (σ.1 1)) 14 ((f + c) % 16) (σ.1 2)) 15 ((f + c) % 16) (σ.1 3)) 16 ((f + c) % 16) (σ.1 4)) 17 ((f + c) % 16) 0) 18 ((f + c) % 16) (σ.1 5)) 35 (σ.1 35 + 1) := by
      unfold f_X3_add
      try dsimp only
      rw [if_pos hc, kj]
    rw [hw, hv]
    obtain ⟨u, u0, u1, u2, u3, u4, u5, u6⟩ := upd7 (B := μ.2.1 6) (c := c) (v0 := σ.1 0) (v1 := σ.1 1) (v2 := σ.1 2) (v3 := σ.1 3) (v4 := σ.1 4) (v5 := 0) (v6 := σ.1 5) rfl
    refine ⟨⟨c + 1, f, s, t, ⟨ei, e2, e3, e4⟩, ⟨rfl, m2⟩, ⟨by omega, c2, c3, c4⟩, fun i hi => ?_, hs, ?_, ?_⟩, Or.inr ⟨rfl, rfl, ?_, ?_⟩⟩
    · show RowQ (upd (σ.2.1 12) ((f + c) % 16) (σ.1 0)) (upd (σ.2.1 13) ((f + c) % 16) (σ.1 1)) (upd (σ.2.1 14) ((f + c) % 16) (σ.1 2)) (upd (σ.2.1 15) ((f + c) % 16) (σ.1 3)) (upd (σ.2.1 16) ((f + c) % 16) (σ.1 4)) (upd (σ.2.1 17) ((f + c) % 16) 0) (upd (σ.2.1 18) ((f + c) % 16) (σ.1 5)) (upd (upd (upd (upd (upd (upd (upd (μ.2.1 6) (7 * c) (σ.1 0)) (7 * c + 1) (σ.1 1)) (7 * c + 2) (σ.1 2)) (7 * c + 3) (σ.1 3)) (7 * c + 4) (σ.1 4)) (7 * c + 5) 0) (7 * c + 6) (σ.1 5)) ((f + i) % 16) i
      unfold RowQ
      by_cases q : i = c
      · subst q
        rw [u0, u1, u2, u3, u4, u5, u6, upd_eq, upd_eq, upd_eq, upd_eq, upd_eq, upd_eq, upd_eq]
        exact ⟨⟨rfl, rfl, rfl, rfl, rfl, rfl, rfl⟩, b4, by decide⟩
      · have hne : (f + i) % 16 ≠ (f + c) % 16 := by omega
        rw [u _ (by omega), u _ (by omega), u _ (by omega), u _ (by omega), u _ (by omega), u _ (by omega), u _ (by omega), upd_ne hne, upd_ne hne, upd_ne hne, upd_ne hne, upd_ne hne, upd_ne hne, upd_ne hne]
        exact hr i (by omega)
    · show sumQ c (upd (upd (upd (upd (upd (upd (upd (μ.2.1 6) (7 * c) (σ.1 0)) (7 * c + 1) (σ.1 1)) (7 * c + 2) (σ.1 2)) (7 * c + 3) (σ.1 3)) (7 * c + 4) (σ.1 4)) (7 * c + 5) 0) (7 * c + 6) (σ.1 5)) + (upd (upd (upd (upd (upd (upd (upd (μ.2.1 6) (7 * c) (σ.1 0)) (7 * c + 1) (σ.1 1)) (7 * c + 2) (σ.1 2)) (7 * c + 3) (σ.1 3)) (7 * c + 4) (σ.1 4)) (7 * c + 5) 0) (7 * c + 6) (σ.1 5) (7 * c + 5)).toInt = t
      rw [u5, sumQ_c (C := μ.2.1 6) c (fun i hi => u _ (by omega)), hq]
      show (t : Int) + 0 = t
      omega
    · show 0 ≤ (upd (upd (upd (upd (upd (upd (upd (μ.2.1 6) (7 * c) (σ.1 0)) (7 * c + 1) (σ.1 1)) (7 * c + 2) (σ.1 2)) (7 * c + 3) (σ.1 3)) (7 * c + 4) (σ.1 4)) (7 * c + 5) 0) (7 * c + 6) (σ.1 5) 5).toInt
      by_cases q : c = 0
      · subst q
        rw [u5]
        decide
      · rw [u 5 (by omega)]
        exact h50
    · show 1 ≤ (σ.1 35 + 1).toInt
      rw [ei]
      omega
    · show (upd (upd (upd (upd (upd (upd (upd (μ.2.1 6) (7 * c) (σ.1 0)) (7 * c + 1) (σ.1 1)) (7 * c + 2) (σ.1 2)) (7 * c + 3) (σ.1 3)) (7 * c + 4) (σ.1 4)) (7 * c + 5) 0) (7 * c + 6) (σ.1 5)) (7 * ((σ.1 35 + 1).toInt.toNat - 1) + 6) = σ.1 5
      rw [ei]
      exact u6
  · have hc2 := hc
    rw [lt32, e1, z16] at hc2
    have hc3 : μ.1 29 = 16 := by rw [m1, eq32, e1, z16]; omega
    have hw : f_X8_handOn μ e v = μ := by
      unfold f_X8_handOn
      try dsimp only
      rw [if_pos hc3]
    have hv : f_X3_add σ = upS σ 39 1 := by
      unfold f_X3_add
      try dsimp only
      rw [if_neg hc]
    rw [hw, hv]
    exact ⟨⟨c, f, s, t, ⟨e1, e2, e3, e4⟩, ⟨m1, m2⟩, ⟨c1, c2, c3, c4⟩, hr, hs, hq, h50⟩, Or.inl ⟨rfl, rfl⟩⟩
theorem narB (b : Int32) : vp_nar .byte (vp_nar .byte (Int8.toInt32 (Int32.toInt8 b))) = vp_nar .byte (Int8.toInt32 (Int32.toInt8 b)) := by
  have h : ∀ x : Int32, vp_nar .byte x = Int8.toInt32 (Int32.toInt8 x) := fun x => rfl
  simp only [h]
  rw [Int8.toInt8_toInt32, Int8.toInt8_toInt32]
/-- one byte of data comes to the latest row -/
def dat8 (μ : PS) (b : Int32) : PS := if 4096 ≤ (μ.1 31) then upA μ 6 (Int32.toNatClampNeg (((7 * (μ.1 29)) - 7) + 6)) ((μ.2.1 6 (Int32.toNatClampNeg (((7 * (μ.1 29)) - 7) + 6))) - 1) else upA (upS (upA (upA μ 6 (Int32.toNatClampNeg (((7 * (μ.1 29)) - 7) + 6)) ((μ.2.1 6 (Int32.toNatClampNeg (((7 * (μ.1 29)) - 7) + 6))) - 1)) 7 (Int32.toNatClampNeg (μ.1 31)) (vp_nar .byte (Int8.toInt32 (Int32.toInt8 b)))) 31 ((μ.1 31) + 1)) 6 (Int32.toNatClampNeg (((7 * (μ.1 29)) - 7) + 5)) (((upS (upA (upA μ 6 (Int32.toNatClampNeg (((7 * (μ.1 29)) - 7) + 6)) ((μ.2.1 6 (Int32.toNatClampNeg (((7 * (μ.1 29)) - 7) + 6))) - 1)) 7 (Int32.toNatClampNeg (μ.1 31)) (vp_nar .byte (Int8.toInt32 (Int32.toInt8 b)))) 31 ((μ.1 31) + 1)).2.1 6 (Int32.toNatClampNeg (((7 * (μ.1 29)) - 7) + 5))) + 1)
theorem GQ.byte {σ μ : PS} {b dl : Int32} (h : GQ σ μ) (hl : σ.1 39 = 0) (hk : LK dl μ) : GQ (f_X3_addByte σ b) (dat8 μ b) ∧ LK (dl - 1) (dat8 μ b) := by
  obtain ⟨c, f, s, t, ⟨e1, e2, e3, e4⟩, ⟨m1, m2⟩, ⟨c1, c2, c3, c4⟩, hr, hs, hq, h50⟩ := h
  obtain ⟨l1, l2⟩ := hk
  have z0 : (0 : Int32).toInt = 0 := rfl
  have z1 : (1 : Int32).toInt = 1 := rfl
  have z5 : (5 : Int32).toInt = 5 := rfl
  have z6 : (6 : Int32).toInt = 6 := rfl
  have z7 : (7 : Int32).toInt = 7 := rfl
  have z16 : (16 : Int32).toInt = 16 := rfl
  have z4096 : (4096 : Int32).toInt = 4096 := rfl
  rw [m1, e1] at l1 l2
  obtain ⟨d, rfl⟩ : ∃ d : Nat, c = d + 1 := ⟨c - 1, by omega⟩
  replace l2 : μ.2.1 6 (7 * d + 6) = dl := l2
  have h35 : ¬ σ.1 35 = 0 := by rw [eq32, e1, z0]; omega
  have es : (σ.1 36 + σ.1 35).toInt = ((f + d + 1 : Nat) : Int) := by rw [i32add (by omega) (by omega), e1, e2]; omega
  have es2 : (σ.1 36 + σ.1 35 - 1).toInt = ((f + d : Nat) : Int) := by rw [i32sub (by omega) (by omega), es, z1]; omega
  have kj := (remN es2 (m := 16) (k := 16) rfl).1
  have em : (7 * μ.1 29).toInt = ((7 * d + 7 : Nat) : Int) := by rw [m1, i32mul (by rw [z7]; omega) (by rw [z7]; omega), z7, e1]; omega
  have em2 : (7 * μ.1 29 - 7).toInt = ((7 * d : Nat) : Int) := by rw [i32sub (by omega) (by omega), em, z7]; omega
  have k5 : (7 * μ.1 29 - 7 + 5).toNatClampNeg = 7 * d + 5 := clampE (by rw [i32add (by omega) (by omega), em2, z5]; omega)
  have k6 : (7 * μ.1 29 - 7 + 6).toNatClampNeg = 7 * d + 6 := clampE (by rw [i32add (by omega) (by omega), em2, z6]; omega)
  unfold f_X3_addByte dat8
  try dsimp only
  rw [if_pos hl, if_neg h35, kj, k5, k6, m2]
  have hd := hr d (by omega)
  obtain ⟨⟨r0, r1, r2, r3, r4, r5, r6⟩, r7, r8⟩ := hd
  by_cases hc : (4096 : Int32) ≤ σ.1 38
  · rw [if_pos hc, if_pos hc]
    refine ⟨⟨d + 1, f, s, t, ⟨e1, e2, e3, e4⟩, ⟨m1, m2⟩, ⟨c1, c2, c3, c4⟩, fun i hi => ?_, hs, ?_, ?_⟩, ?_, ?_⟩
    · show RowQ (σ.2.1 12) (σ.2.1 13) (σ.2.1 14) (σ.2.1 15) (σ.2.1 16) (σ.2.1 17) (upd (σ.2.1 18) ((f + d) % 16) (σ.2.1 18 ((f + d) % 16) - 1)) (upd (μ.2.1 6) (7 * d + 6) (μ.2.1 6 (7 * d + 6) - 1)) ((f + i) % 16) i
      unfold RowQ
      by_cases q : i = d
      · subst q
        rw [upd_ne (by omega), upd_ne (by omega), upd_ne (by omega), upd_ne (by omega), upd_ne (by omega), upd_ne (by omega), upd_eq, upd_eq, r6]
        exact ⟨⟨r0, r1, r2, r3, r4, r5, rfl⟩, r7, r8⟩
      · rw [upd_ne (by omega), upd_ne (by omega), upd_ne (by omega), upd_ne (by omega), upd_ne (by omega), upd_ne (by omega), upd_ne (by omega), upd_ne (by omega)]
        exact hr i hi
    · rw [← hq]
      exact sumQ_c (d + 1) (fun i hi => upd_ne (f := μ.2.1 6) (by omega))
    · show 0 ≤ (upd (μ.2.1 6) (7 * d + 6) (μ.2.1 6 (7 * d + 6) - 1) 5).toInt
      rw [upd_ne (by omega)]
      exact h50
    · show 1 ≤ (μ.1 29).toInt
      rw [m1, e1]; omega
    · show upd (μ.2.1 6) (7 * d + 6) (μ.2.1 6 (7 * d + 6) - 1) (7 * ((μ.1 29).toInt.toNat - 1) + 6) = dl - 1
      rw [m1, e1]
      show upd (μ.2.1 6) (7 * d + 6) (μ.2.1 6 (7 * d + 6) - 1) (7 * d + 6) = dl - 1
      rw [upd_eq, l2]
  · rw [if_neg hc, if_neg hc]
    rw [le32, e4, z4096] at hc
    have ea : (σ.1 37 + σ.1 38).toInt = ((s + t : Nat) : Int) := by rw [i32add (by omega) (by omega), e3, e4]; omega
    have ks := (remN ea (m := 4096) (k := 4096) rfl).1
    have kt : (σ.1 38).toNatClampNeg = t := clampE e4
    have et : (σ.1 38 + 1).toInt = ((t + 1 : Nat) : Int) := by rw [i32add (by omega) (by omega), e4, z1]; omega
    rw [ks, kt]
    have ev : (upS (upA (upA μ 6 (7 * d + 6) (μ.2.1 6 (7 * d + 6) - 1)) 7 t (vp_nar .byte (Int8.toInt32 (Int32.toInt8 b)))) 31 (σ.1 38 + 1)).2.1 6 (7 * d + 5) = σ.2.1 17 ((f + d) % 16) := by
      show upd (μ.2.1 6) (7 * d + 6) (μ.2.1 6 (7 * d + 6) - 1) (7 * d + 5) = _
      rw [upd_ne (by omega), r5]
    rw [ev]
    have hsum : (μ.2.1 6 (7 * d + 5)).toInt ≤ t := by
      have h1 := sumQ_0 (B := μ.2.1 6) d (fun i hi => by
        obtain ⟨⟨-, -, -, -, -, w5, -⟩, -, w8⟩ := hr i (by omega)
        rw [w5]; exact w8)
      have h2 : sumQ d (μ.2.1 6) + (μ.2.1 6 (7 * d + 5)).toInt = t := hq
      omega
    rw [r5] at hsum
    have ep : (σ.2.1 17 ((f + d) % 16) + 1).toInt = (σ.2.1 17 ((f + d) % 16)).toInt + 1 := by rw [i32add (by omega) (by omega), z1]
    refine ⟨⟨d + 1, f, s, t + 1, ⟨e1, e2, e3, et⟩, ⟨m1, rfl⟩, ⟨c1, c2, c3, by omega⟩, fun i hi => ?_, fun i hi => ?_, ?_, ?_⟩, ?_, ?_⟩
    · show RowQ (σ.2.1 12) (σ.2.1 13) (σ.2.1 14) (σ.2.1 15) (σ.2.1 16) (upd (σ.2.1 17) ((f + d) % 16) (σ.2.1 17 ((f + d) % 16) + 1)) (upd (σ.2.1 18) ((f + d) % 16) (σ.2.1 18 ((f + d) % 16) - 1)) (upd (upd (μ.2.1 6) (7 * d + 6) (μ.2.1 6 (7 * d + 6) - 1)) (7 * d + 5) (σ.2.1 17 ((f + d) % 16) + 1)) ((f + i) % 16) i
      unfold RowQ
      by_cases q : i = d
      · subst q
        rw [upd_ne (by omega), upd_ne (by omega), upd_ne (by omega), upd_ne (by omega), upd_ne (by omega), upd_ne (by omega), upd_ne (by omega), upd_ne (by omega), upd_ne (by omega), upd_ne (by omega), upd_eq, upd_eq, upd_ne (by omega), upd_eq, upd_eq, r6]
        exact ⟨⟨r0, r1, r2, r3, r4, rfl, rfl⟩, r7, by rw [ep]; omega⟩
      · have hne : (f + i) % 16 ≠ (f + d) % 16 := by omega
        rw [upd_ne (by omega), upd_ne (by omega), upd_ne (by omega), upd_ne (by omega), upd_ne (by omega), upd_ne (by omega), upd_ne (by omega), upd_ne (by omega), upd_ne (by omega), upd_ne (by omega), upd_ne (by omega), upd_ne (by omega), upd_ne hne, upd_ne (by omega), upd_ne (by omega), upd_ne hne]
        exact hr i hi
    · show upd (μ.2.1 7) t (vp_nar .byte (Int8.toInt32 (Int32.toInt8 b))) i = upd (σ.2.1 5) ((s + t) % 4096) (vp_nar .byte (Int8.toInt32 (Int32.toInt8 b))) ((s + i) % 4096) ∧ vp_nar .byte (upd (μ.2.1 7) t (vp_nar .byte (Int8.toInt32 (Int32.toInt8 b))) i) = upd (μ.2.1 7) t (vp_nar .byte (Int8.toInt32 (Int32.toInt8 b))) i
      by_cases q : i = t
      · subst q
        rw [upd_eq, upd_eq]
        exact ⟨rfl, narB b⟩
      · rw [upd_ne q, upd_ne (by omega)]
        exact hs i (by omega)
    · show sumQ d (upd (upd (μ.2.1 6) (7 * d + 6) (μ.2.1 6 (7 * d + 6) - 1)) (7 * d + 5) (σ.2.1 17 ((f + d) % 16) + 1)) + (upd (upd (μ.2.1 6) (7 * d + 6) (μ.2.1 6 (7 * d + 6) - 1)) (7 * d + 5) (σ.2.1 17 ((f + d) % 16) + 1) (7 * d + 5)).toInt = ((t + 1 : Nat) : Int)
      rw [upd_eq, sumQ_c (C := μ.2.1 6) d (fun i hi => by rw [← upd_ne (f := μ.2.1 6) (k := 7 * d + 6) (v := μ.2.1 6 (7 * d + 6) - 1) (show 7 * i + 5 ≠ 7 * d + 6 by omega)]; exact upd_ne (by omega)), ep]
      have h2 : sumQ d (μ.2.1 6) + (μ.2.1 6 (7 * d + 5)).toInt = t := hq
      rw [r5] at h2
      omega
    · show 0 ≤ (upd (upd (μ.2.1 6) (7 * d + 6) (μ.2.1 6 (7 * d + 6) - 1)) (7 * d + 5) (σ.2.1 17 ((f + d) % 16) + 1) 5).toInt
      by_cases q : d = 0
      · subst q
        rw [upd_eq, ep]; omega
      · rw [upd_ne (by omega), upd_ne (by omega)]
        exact h50
    · show 1 ≤ (μ.1 29).toInt
      rw [m1, e1]; omega
    · show upd (upd (μ.2.1 6) (7 * d + 6) (μ.2.1 6 (7 * d + 6) - 1)) (7 * d + 5) (σ.2.1 17 ((f + d) % 16) + 1) (7 * ((μ.1 29).toInt.toNat - 1) + 6) = dl - 1
      rw [m1, e1]
      show upd (upd (μ.2.1 6) (7 * d + 6) (μ.2.1 6 (7 * d + 6) - 1)) (7 * d + 5) (σ.2.1 17 ((f + d) % 16) + 1) (7 * d + 6) = dl - 1
      rw [upd_ne (by omega), upd_eq, l2]
