/-! the pure relation, part 10: glyph, page, place -/
theorem i64nat {v : Int32} (h : 0 ≤ v.toInt) : v.toInt64.toBitVec.toNat = v.toInt.toNat := by
  have e : v.toInt64.toInt = v.toInt := i64I v
  have e2 : v.toInt64.toInt = v.toInt64.toBitVec.toInt := rfl
  rw [BitVec.toInt_eq_toNat_cond] at e2
  have := v.toInt64.toBitVec.isLt
  have := i32r v
  split at e2 <;> omega
theorem pkN {x y b f : Int32} (hx : bd x 0 131071) (hy : bd y 0 131071) (hb : bd b 0 255) (hf : bd f 0 1) : (pk x y b f).toBitVec.toNat = x.toInt.toNat * 67108864 + (y.toInt.toNat * 512 + (b.toInt.toNat * 2 + f.toInt.toNat)) := by
  obtain ⟨x1, x2⟩ := hx
  obtain ⟨y1, y2⟩ := hy
  obtain ⟨b1, b2⟩ := hb
  obtain ⟨f1, f2⟩ := hf
  have e : (pk x y b f).toBitVec = ((x.toInt64.toBitVec <<< 26 ||| y.toInt64.toBitVec <<< 9) ||| b.toInt64.toBitVec <<< 1) ||| f.toInt64.toBitVec := rfl
  rw [e, BitVec.toNat_or, BitVec.toNat_or, BitVec.toNat_or, BitVec.toNat_shiftLeft, BitVec.toNat_shiftLeft, BitVec.toNat_shiftLeft, i64nat x1, i64nat y1, i64nat b1, i64nat f1]
  generalize hX : x.toInt.toNat = X
  generalize hY : y.toInt.toNat = Y
  generalize hB : b.toInt.toNat = B
  generalize hF : f.toInt.toNat = F
  have k1 : X ≤ 131071 := by omega
  have k2 : Y ≤ 131071 := by omega
  have k3 : B ≤ 255 := by omega
  have k4 : F ≤ 1 := by omega
  have s1 : X <<< 26 = X * 67108864 := by rw [Nat.shiftLeft_eq]
  have s2 : Y <<< 9 = Y * 512 := by rw [Nat.shiftLeft_eq]
  have s3 : B <<< 1 = B * 2 := by rw [Nat.shiftLeft_eq]
  rw [Nat.mod_eq_of_lt (show X <<< 26 < 2 ^ 64 by rw [s1]; omega), Nat.mod_eq_of_lt (show Y <<< 9 < 2 ^ 64 by rw [s2]; omega), Nat.mod_eq_of_lt (show B <<< 1 < 2 ^ 64 by rw [s3]; omega)]
  rw [Nat.or_assoc, Nat.or_assoc, ← Nat.shiftLeft_add_eq_or_of_lt (a := B) (i := 1) (b := F) (by omega)]
  rw [← Nat.shiftLeft_add_eq_or_of_lt (a := Y) (i := 9) (b := B <<< 1 + F) (by rw [s3]; omega)]
  rw [← Nat.shiftLeft_add_eq_or_of_lt (a := X) (i := 26) (by rw [s2, s3]; omega)]
  rw [s1, s2, s3]
theorem lowN (v : BitVec 64) : (v.signExtend 32).toNat = v.toNat % 4294967296 := by
  rw [BitVec.signExtend_eq_setWidth_of_le _ (by decide), BitVec.toNat_setWidth]
theorem i32ofN {v : Int32} {n : Nat} (h : v.toBitVec.toNat = n) (hn : n < 2147483648) : v.toInt = (n : Int) := by
  have e2 : v.toInt = v.toBitVec.toInt := rfl
  rw [BitVec.toInt_eq_toNat_cond] at e2
  split at e2 <;> omega
theorem shN (v : Int64) (k : Nat) (hk : k < 64) {w : Int64} (hw : w.toBitVec = v.toBitVec >>> k) : w.toInt32.toBitVec.toNat = (v.toBitVec.toNat / 2 ^ k) % 4294967296 := by
  show (w.toBitVec.signExtend 32).toNat = _
  rw [lowN, hw, BitVec.toNat_ushiftRight, Nat.shiftRight_eq_div_pow]
theorem andN (a m : Int32) (j : Nat) (hm : m.toBitVec.toNat = 2 ^ j - 1) : (a &&& m).toBitVec.toNat = a.toBitVec.toNat % 2 ^ j := by
  show (a.toBitVec &&& m.toBitVec).toNat = _
  rw [BitVec.toNat_and, hm, Nat.and_two_pow_sub_one_eq_mod]
theorem part0 {x y b f : Int32} (hx : bd x 0 131071) (hy : bd y 0 131071) (hb : bd b 0 255) (hf : bd f 0 1) : Int64.toInt32 ((Int64.toUInt64 (pk x y b f) >>> (Int64.toUInt64 (Int32.toInt64 26) &&& Int64.toUInt64 63)).toInt64) = x := by
  have h := shN (pk x y b f) 26 (by decide) (w := ((Int64.toUInt64 (pk x y b f) >>> (Int64.toUInt64 (Int32.toInt64 26) &&& Int64.toUInt64 63)).toInt64)) rfl
  rw [pkN hx hy hb hf] at h
  obtain ⟨x1, x2⟩ := hx
  obtain ⟨y1, y2⟩ := hy
  obtain ⟨b1, b2⟩ := hb
  obtain ⟨f1, f2⟩ := hf
  apply i32ext
  rw [i32ofN h (by omega)]
  omega
theorem part1 {x y b f : Int32} (hx : bd x 0 131071) (hy : bd y 0 131071) (hb : bd b 0 255) (hf : bd f 0 1) : (Int64.toInt32 ((Int64.toUInt64 (pk x y b f) >>> (Int64.toUInt64 (Int32.toInt64 9) &&& Int64.toUInt64 63)).toInt64)) &&& 131071 = y := by
  have h := shN (pk x y b f) 9 (by decide) (w := ((Int64.toUInt64 (pk x y b f) >>> (Int64.toUInt64 (Int32.toInt64 9) &&& Int64.toUInt64 63)).toInt64)) rfl
  rw [pkN hx hy hb hf] at h
  have h2 := andN (Int64.toInt32 ((Int64.toUInt64 (pk x y b f) >>> (Int64.toUInt64 (Int32.toInt64 9) &&& Int64.toUInt64 63)).toInt64)) 131071 17 rfl
  rw [h] at h2
  obtain ⟨x1, x2⟩ := hx
  obtain ⟨y1, y2⟩ := hy
  obtain ⟨b1, b2⟩ := hb
  obtain ⟨f1, f2⟩ := hf
  apply i32ext
  rw [i32ofN h2 (by omega)]
  omega
theorem part2 {x y b f : Int32} (hx : bd x 0 131071) (hy : bd y 0 131071) (hb : bd b 0 255) (hf : bd f 0 1) : (Int64.toInt32 ((Int64.toUInt64 (pk x y b f) >>> (Int64.toUInt64 (Int32.toInt64 1) &&& Int64.toUInt64 63)).toInt64)) &&& 255 = b := by
  have h := shN (pk x y b f) 1 (by decide) (w := ((Int64.toUInt64 (pk x y b f) >>> (Int64.toUInt64 (Int32.toInt64 1) &&& Int64.toUInt64 63)).toInt64)) rfl
  rw [pkN hx hy hb hf] at h
  have h2 := andN (Int64.toInt32 ((Int64.toUInt64 (pk x y b f) >>> (Int64.toUInt64 (Int32.toInt64 1) &&& Int64.toUInt64 63)).toInt64)) 255 8 rfl
  rw [h] at h2
  obtain ⟨x1, x2⟩ := hx
  obtain ⟨y1, y2⟩ := hy
  obtain ⟨b1, b2⟩ := hb
  obtain ⟨f1, f2⟩ := hf
  apply i32ext
  rw [i32ofN h2 (by omega)]
  omega
theorem part3 {x y b f : Int32} (hx : bd x 0 131071) (hy : bd y 0 131071) (hb : bd b 0 255) (hf : bd f 0 1) : (Int64.toInt32 (pk x y b f)) &&& 1 = f := by
  have h : (Int64.toInt32 (pk x y b f)).toBitVec.toNat = (pk x y b f).toBitVec.toNat % 4294967296 := lowN _
  rw [pkN hx hy hb hf] at h
  have h2 := andN (Int64.toInt32 (pk x y b f)) 1 1 rfl
  rw [h] at h2
  obtain ⟨x1, x2⟩ := hx
  obtain ⟨y1, y2⟩ := hy
  obtain ⟨b1, b2⟩ := hb
  obtain ⟨f1, f2⟩ := hf
  apply i32ext
  rw [i32ofN h2 (by omega)]
  omega
theorem o03' {o : Int32} (h1 : ¬ o < 0) (h2 : o ≤ 3) : o = 0 ∨ o = 1 ∨ o = 2 ∨ o = 3 := by
  have z0 : (0 : Int32).toInt = 0 := rfl
  have z1 : (1 : Int32).toInt = 1 := rfl
  have z2 : (2 : Int32).toInt = 2 := rfl
  have z3 : (3 : Int32).toInt = 3 := rfl
  rw [lt32] at h1
  rw [le32] at h2
  simp only [eq32]
  omega
theorem PP.glyph {n m : Int} {σ μ : PS} {x y : Int32} (hn : n ≤ 5000) (h : PP n m σ μ) : f_X8_thrown (f_X8_glyph μ x y).1 = (f_X7_glyph σ x y).1 ∧ ((f_X7_glyph σ x y).1 = 0 → (f_X7_glyph σ x y).2 = (f_X8_glyph μ x y).2) ∧ ∃ z : Int32, (f_X8_glyph μ x y).1 = upS μ 0 z := by
  obtain ⟨hl, ⟨⟨s1, s2, s3, s4⟩, s5, s6⟩, -⟩ := h
  obtain ⟨s5, s7⟩ := s5
  have bad : f_X8_thrown (g_X8_glyph_22 μ x y).1 = ((1 : Int32), (0 : Int32)).1 ∧ (((1 : Int32), (0 : Int32)).1 = 0 → ((1 : Int32), (0 : Int32)).2 = (g_X8_glyph_22 μ x y).2) ∧ ∃ z : Int32, (g_X8_glyph_22 μ x y).1 = upS μ 0 z := ⟨rfl, fun q => absurd q one_ne, _, rfl⟩
  have z0 : (0 : Int32).toInt = 0 := rfl
  have z1 : (1 : Int32).toInt = 1 := rfl
  have z2 : (2 : Int32).toInt = 2 := rfl
  have z3 : (3 : Int32).toInt = 3 := rfl
  have z4 : (4 : Int32).toInt = 4 := rfl
  unfold f_X8_glyph f_X7_glyph
  rw [s1]
  by_cases c1 : x < 0
  · rw [if_pos c1, if_pos c1]; exact bad
  rw [if_neg c1, if_neg c1]
  by_cases c2 : μ.1 23 ≤ x
  · rw [if_pos c2, if_pos c2]; exact bad
  rw [if_neg c2, if_neg c2]
  by_cases c3 : y < 0
  · rw [if_pos c3, if_pos c3]; exact bad
  rw [if_neg c3, if_neg c3]
  by_cases c4 : y ≤ 3
  · rw [if_pos c4, if_pos c4]
    refine ⟨rfl, fun _ => ?_, _, rfl⟩
    rw [lt32] at c1
    rw [le32] at c2
    obtain ⟨i, ei⟩ : ∃ i : Nat, x.toInt = (i : Int) := ⟨x.toInt.toNat, by omega⟩
    have em : (4 * x).toInt = ((4 * i : Nat) : Int) := by rw [i32mul (by rw [z4]; omega) (by rw [z4]; omega), z4, ei]; omega
    obtain ⟨g1, g2, g3, g4, g5⟩ := s6 i (by omega)
    have ki : x.toNatClampNeg = i := clampE ei
    have k0 : (4 * x + 0).toNatClampNeg = 4 * i := clampE (by rw [i32add (by omega) (by omega), em, z0]; omega)
    have k1 : (4 * x + 1).toNatClampNeg = 4 * i + 1 := clampE (by rw [i32add (by omega) (by omega), em, z1]; omega)
    have k2 : (4 * x + 2).toNatClampNeg = 4 * i + 2 := clampE (by rw [i32add (by omega) (by omega), em, z2]; omega)
    have k3 : (4 * x + 3).toNatClampNeg = 4 * i + 3 := clampE (by rw [i32add (by omega) (by omega), em, z3]; omega)
    show f_X6_partOf σ x y = μ.2.1 4 (4 * x + y).toNatClampNeg
    unfold f_X6_partOf
    try dsimp only
    rw [ki, g1]
    rcases o03' c3 c4 with rfl | rfl | rfl | rfl
    · rw [if_pos rfl, k0]; exact part0 g2 g3 g4 g5
    · rw [if_neg (by decide), if_pos rfl, k1]; exact part1 g2 g3 g4 g5
    · rw [if_neg (by decide), if_neg (by decide), if_pos rfl, k2]; exact part2 g2 g3 g4 g5
    · rw [if_neg (by decide), if_neg (by decide), if_neg (by decide), k3]; exact part3 g2 g3 g4 g5
  · rw [if_neg c4, if_neg c4]; exact bad
theorem PP.page {n m : Int} {σ μ : PS} {x y : Int32} (hm : m ≤ 1000000) (h : PP n m σ μ) : f_X8_thrown (f_X8_page μ x y).1 = (f_X7_page σ x y).1 ∧ ((f_X7_page σ x y).1 = 0 → (f_X7_page σ x y).2 = (f_X8_page μ x y).2) ∧ ∃ z : Int32, (f_X8_page μ x y).1 = upS μ 0 z := by
  obtain ⟨-, -, d1, d2, d3⟩ := h
  obtain ⟨d2, d4⟩ := d2
  have bad : f_X8_thrown (g_X8_page_33 μ x y).1 = ((1 : Int32), (0 : Int32)).1 ∧ (((1 : Int32), (0 : Int32)).1 = 0 → ((1 : Int32), (0 : Int32)).2 = (g_X8_page_33 μ x y).2) ∧ ∃ z : Int32, (g_X8_page_33 μ x y).1 = upS μ 0 z := ⟨rfl, fun q => absurd q one_ne, _, rfl⟩
  have z0 : (0 : Int32).toInt = 0 := rfl
  have z3 : (3 : Int32).toInt = 3 := rfl
  have z4 : (4 : Int32).toInt = 4 := rfl
  have z40 : (40 : Int32).toInt = 40 := rfl
  unfold f_X8_page f_X7_page f_X0_has
  rw [d1]
  by_cases c1 : x < 0
  · rw [if_pos c1, if_pos c1, if_pos rfl]; exact bad
  rw [if_neg c1, if_neg c1]
  by_cases c2 : μ.1 27 ≤ x
  · rw [if_pos c2, if_pos c2, if_pos rfl]; exact bad
  rw [if_neg c2, if_neg c2]
  by_cases c5 : x < μ.1 27 - 40
  · rw [if_pos c5, if_pos c5, if_pos rfl]; exact bad
  rw [if_neg c5, if_neg c5, if_neg one_ne]
  by_cases c3 : y < 0
  · rw [if_pos c3, if_pos c3]; exact bad
  rw [if_neg c3, if_neg c3]
  by_cases c4 : y ≤ 3
  · rw [if_pos c4, if_pos c4]
    refine ⟨rfl, fun _ => ?_, _, rfl⟩
    rw [lt32] at c1 c3
    rw [le32] at c2 c4
    show f_X0_partOf σ x y = μ.2.1 5 (4 * (x - x / 40 * 40) + y).toNatClampNeg
    unfold f_X0_partOf
    rw [fmE (by omega)]
    have er : (x - x / 40 * 40).toInt = x.toInt % 40 := by rw [rem32 (by omega), z40]
    have em : (4 * (x - x / 40 * 40)).toInt = 4 * (x.toInt % 40) := by rw [i32mul (by rw [z4, er]; omega) (by rw [z4, er]; omega), z4, er]
    have ea : (4 * (x - x / 40 * 40) + y).toInt = 4 * (x.toInt % 40) + y.toInt := by rw [i32add (by omega) (by omega), em]
    refine d3 _ ?_
    have := clampI (v := 4 * (x - x / 40 * 40) + y) (by omega)
    omega
  · rw [if_neg c4, if_neg c4]; exact bad
theorem PP.place {n m : Int} {σ μ : PS} {x y : Int32} (h : PP n m σ μ) : f_X8_thrown (f_X8_place μ x y).1 = (f_X7_place σ x y).1 ∧ ((f_X7_place σ x y).1 = 0 → (f_X7_place σ x y).2 = (f_X8_place μ x y).2) ∧ ∃ z : Int32, (f_X8_place μ x y).1 = upS μ 0 z := by
  obtain ⟨⟨-, ⟨b0, b1, b2, b3, b4, b5, b6, b7, b8, b9, b10, b11, b12⟩, hs, c0, c1, c2, c3, c4, c5, c6, c7, c8, c9, c10, c11, c12, c13, c14, c15, c16, c17⟩, -⟩ := h
  have bad : f_X8_thrown (g_X8_place_16 μ x y).1 = ((1 : Int32), (0 : Int32)).1 ∧ (((1 : Int32), (0 : Int32)).1 = 0 → ((1 : Int32), (0 : Int32)).2 = (g_X8_place_16 μ x y).2) ∧ ∃ z : Int32, (g_X8_place_16 μ x y).1 = upS μ 0 z := ⟨rfl, fun q => absurd q one_ne, _, rfl⟩
  have z0 : (0 : Int32).toInt = 0 := rfl
  have z1 : (1 : Int32).toInt = 1 := rfl
  have z2 : (2 : Int32).toInt = 2 := rfl
  have z13 : (13 : Int32).toInt = 13 := rfl
  obtain ⟨c17, c18⟩ := c17
  unfold f_X8_place f_X7_place
  rw [b12]
  by_cases q1 : x < 0
  · rw [if_pos q1, if_pos q1]; exact bad
  rw [if_neg q1, if_neg q1]
  by_cases q2 : x < σ.1 30
  · rw [if_pos q2, if_pos q2]
    rw [lt32] at q1 q2
    obtain ⟨i, ei⟩ : ∃ i : Nat, x.toInt = (i : Int) := ⟨x.toInt.toNat, by omega⟩
    have ki : x.toNatClampNeg = i := clampE ei
    have em : (2 * x).toInt = ((2 * i : Nat) : Int) := by rw [i32mul (by rw [z2]; omega) (by rw [z2]; omega), z2, ei]; omega
    have e3 : (13 + 2 * x).toInt = ((13 + 2 * i : Nat) : Int) := by rw [i32add (by rw [z13]; omega) (by rw [z13]; omega), em, z13]; omega
    have k0 : (13 + 2 * x + 0).toNatClampNeg = 13 + 2 * i := clampE (by rw [i32add (by omega) (by omega), e3, z0]; omega)
    have k1 : (13 + 2 * x + 1).toNatClampNeg = 14 + 2 * i := clampE (by rw [i32add (by omega) (by omega), e3, z1]; omega)
    obtain ⟨g1, g2⟩ := hs i (by omega)
    rw [k0, k1, ki]
    by_cases q3 : y = 0
    · rw [if_pos q3, if_pos q3]
      exact ⟨rfl, fun _ => g1.symm, _, rfl⟩
    · rw [if_neg q3, if_neg q3]
      exact ⟨rfl, fun _ => g2.symm, _, rfl⟩
  · rw [if_neg q2, if_neg q2]; exact bad
