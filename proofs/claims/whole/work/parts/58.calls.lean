/-! the pure relation, part 19: feed, the start, all calls -/
theorem t255 {i : Nat} (hi : ¬ i < 8) : (255#64).getLsbD i = false := by
  have e : (255#64).getLsbD i = Nat.testBit (2 ^ 8 - 1) i := by
    show Nat.testBit (255#64).toNat i = _
    rfl
  rw [e, Nat.testBit_two_pow_sub_one]
  exact decide_eq_false hi
theorem shr8 (v : BitVec 64) (s : Nat) (hs : s ≤ 56) : (v.sshiftRight s) &&& 255#64 = (v >>> s) &&& 255#64 := by
  apply BitVec.eq_of_getLsbD_eq
  intro i hi
  rw [BitVec.getLsbD_and, BitVec.getLsbD_and, BitVec.getLsbD_ushiftRight, BitVec.getLsbD_sshiftRight]
  by_cases h8 : i < 8
  · rw [if_pos (by omega)]
    simp only [show decide (64 ≤ i) = false from decide_eq_false (by omega), Bool.not_false, Bool.true_and]
  · rw [t255 h8, Bool.and_false, Bool.and_false]
theorem byteG {v a : Int64} {w z : Int64} (s : Nat) (hs : s ≤ 56) (hw : w.toBitVec = v.toBitVec >>> s) (hz : z.toBitVec = v.toBitVec.sshiftRight s) : (Int64.toInt32 w) &&& 255 = Int64.toInt32 (z &&& 255) ∧ bd (Int64.toInt32 (z &&& 255)) 0 255 := by
  have h1 := shN v s (by omega) hw
  have h2 := andN (Int64.toInt32 w) 255 8 rfl
  rw [h1] at h2
  have h3 : (Int64.toInt32 (z &&& 255)).toBitVec.toNat = (v.toBitVec.toNat / 2 ^ s) % 256 := by
    show ((z.toBitVec &&& 255#64).signExtend 32).toNat = _
    rw [lowN, hz, shr8 _ _ hs, BitVec.toNat_and, BitVec.toNat_ushiftRight, Nat.shiftRight_eq_div_pow]
    have : (255#64).toNat = 2 ^ 8 - 1 := rfl
    rw [this, Nat.and_two_pow_sub_one_eq_mod]
    omega
  have h4 : ((Int64.toInt32 w) &&& 255).toBitVec.toNat = (v.toBitVec.toNat / 2 ^ s) % 256 := by
    rw [h2]
    omega
  have e3 := i32ofN h3 (by omega)
  have e4 := i32ofN h4 (by omega)
  refine ⟨i32ext (by rw [e3, e4]), ?_, ?_⟩
  · rw [e3]; omega
  · rw [e3]; omega
theorem o07 {o : Int32} (h1 : 0 ≤ o.toInt) (h2 : o.toInt ≤ 7) : o = 0 ∨ o = 1 ∨ o = 2 ∨ o = 3 ∨ o = 4 ∨ o = 5 ∨ o = 6 ∨ o = 7 := by
  have z5 : (5 : Int32).toInt = 5 := rfl
  have z6 : (6 : Int32).toInt = 6 := rfl
  have z7 : (7 : Int32).toInt = 7 := rfl
  simp only [eq32, n0, n1, n2, n3, n4, z5, z6, z7]
  omega
theorem byteE (v : Int64) {y : Int32} (h1 : 0 ≤ y.toInt) (h2 : y.toInt ≤ 7) : ((Int64.toInt32 ((Int64.toUInt64 v >>> (Int64.toUInt64 (Int32.toInt64 (8 * y)) &&& Int64.toUInt64 63)).toInt64)) &&& 255) = (Int64.toInt32 ((v >>> (Int32.toInt64 (8 * y) &&& 63)) &&& 255)) ∧ bd (Int64.toInt32 ((v >>> (Int32.toInt64 (8 * y) &&& 63)) &&& 255)) 0 255 := by
  rcases o07 h1 h2 with rfl | rfl | rfl | rfl | rfl | rfl | rfl | rfl
  · exact byteG (v := v) (a := v) (w := (Int64.toUInt64 v >>> (Int64.toUInt64 (Int32.toInt64 (8 * 0)) &&& Int64.toUInt64 63)).toInt64) (z := v >>> (Int32.toInt64 (8 * 0) &&& 63)) 0 (by omega) rfl rfl
  · exact byteG (v := v) (a := v) (w := (Int64.toUInt64 v >>> (Int64.toUInt64 (Int32.toInt64 (8 * 1)) &&& Int64.toUInt64 63)).toInt64) (z := v >>> (Int32.toInt64 (8 * 1) &&& 63)) 8 (by omega) rfl rfl
  · exact byteG (v := v) (a := v) (w := (Int64.toUInt64 v >>> (Int64.toUInt64 (Int32.toInt64 (8 * 2)) &&& Int64.toUInt64 63)).toInt64) (z := v >>> (Int32.toInt64 (8 * 2) &&& 63)) 16 (by omega) rfl rfl
  · exact byteG (v := v) (a := v) (w := (Int64.toUInt64 v >>> (Int64.toUInt64 (Int32.toInt64 (8 * 3)) &&& Int64.toUInt64 63)).toInt64) (z := v >>> (Int32.toInt64 (8 * 3) &&& 63)) 24 (by omega) rfl rfl
  · exact byteG (v := v) (a := v) (w := (Int64.toUInt64 v >>> (Int64.toUInt64 (Int32.toInt64 (8 * 4)) &&& Int64.toUInt64 63)).toInt64) (z := v >>> (Int32.toInt64 (8 * 4) &&& 63)) 32 (by omega) rfl rfl
  · exact byteG (v := v) (a := v) (w := (Int64.toUInt64 v >>> (Int64.toUInt64 (Int32.toInt64 (8 * 5)) &&& Int64.toUInt64 63)).toInt64) (z := v >>> (Int32.toInt64 (8 * 5) &&& 63)) 40 (by omega) rfl rfl
  · exact byteG (v := v) (a := v) (w := (Int64.toUInt64 v >>> (Int64.toUInt64 (Int32.toInt64 (8 * 6)) &&& Int64.toUInt64 63)).toInt64) (z := v >>> (Int32.toInt64 (8 * 6) &&& 63)) 48 (by omega) rfl rfl
  · exact byteG (v := v) (a := v) (w := (Int64.toUInt64 v >>> (Int64.toUInt64 (Int32.toInt64 (8 * 7)) &&& Int64.toUInt64 63)).toInt64) (z := v >>> (Int32.toInt64 (8 * 7) &&& 63)) 56 (by omega) rfl rfl
theorem feedL {x : Int64} : ∀ (f : Nat) (σ μ : PS) (y : Int32) (k : Nat) (m : Int), y.toInt = (k : Int) - 1 → k ≤ 8 → k < f → m + (k : Int) ≤ 5000 → Rel m σ μ → (g_X7_feed_18 f σ x y).2 = (g_X8_feed_23 f μ x y).2 ∧ Rel (m + (k : Int)) (g_X7_feed_18 f σ x y).1 (g_X8_feed_23 f μ x y).1
  | 0, σ, μ, y, k, m, hy, h1, h2, h3, h => absurd h2 (by omega)
  | f + 1, σ, μ, y, k, m, hy, h1, h2, h3, h => by
    have zm : (-1 : Int32).toInt = -1 := rfl
    unfold g_X7_feed_18 g_X8_feed_23
    try dsimp only
    by_cases c : y < 0
    · rw [if_pos c, if_pos c]
      exact ⟨rfl, h.w (by omega)⟩
    · rw [if_neg c, if_neg c]
      rw [lt32, n0] at c
      obtain ⟨e, hb⟩ := byteE x (y := y) (by omega) (by omega)
      rw [e]
      obtain ⟨j, rfl⟩ : ∃ j : Nat, k = j + 1 := ⟨k - 1, by omega⟩
      have hR := h.byte (by omega) hb
      obtain ⟨r1, r2⟩ := feedL f _ _ (y + -1) j (m + 1) (by rw [i32add (by omega) (by omega), hy, zm]; omega) (by omega) (by omega) (by omega) hR
      refine ⟨r1, ?_⟩
      rw [show m + ((j + 1 : Nat) : Int) = m + 1 + (j : Int) by omega]
      exact r2
theorem F3L {x : Int64} : ∀ (f : Nat) (σ μ : PS) (y : Int32) (m : Int), y.toInt ≤ 7 → m + (f : Int) ≤ 5000 → Rel m σ μ → F3 f μ x y
  | 0, σ, μ, y, m, h1, h2, h => trivial
  | f + 1, σ, μ, y, m, h1, h2, h => fun c => by
    have zm : (-1 : Int32).toInt = -1 := rfl
    rw [lt32, n0] at c
    obtain ⟨e, hb⟩ := byteE x (y := y) (by omega) (by omega)
    refine ⟨h.2.ph, F3L f _ _ _ (m + 1) ?_ (by omega) (h.byte (by omega) hb)⟩
    rw [i32add (by omega) (by omega), zm]
    omega
theorem n18 {n : Int32} (h1 : ¬ n < 1) (h2 : n ≤ 8) : ∃ k : Nat, (n - 1).toInt = (k : Int) - 1 ∧ k ≤ 8 := by
  have z8 : (8 : Int32).toInt = 8 := rfl
  rw [lt32, n1] at h1
  rw [le32, z8] at h2
  refine ⟨n.toInt.toNat, ?_, by omega⟩
  rw [i32sub (by rw [n1]; omega) (by rw [n1]; omega), n1]
  omega
theorem Rel.feed {m : Int} {σ μ : PS} {x : Int64} {n : Int32} (hm : m ≤ 4992) (h : Rel m σ μ) : (f_X7_feed σ x n).2 = (f_X8_feed μ x n).2 ∧ Rel (m + 8) (f_X7_feed σ x n).1 (f_X8_feed μ x n).1 := by
  unfold f_X7_feed f_X8_feed
  try dsimp only
  by_cases c1 : n < 1
  · rw [if_pos c1, if_pos c1]
    exact ⟨rfl, h.w (by omega)⟩
  rw [if_neg c1, if_neg c1]
  by_cases c2 : n ≤ 8
  · rw [if_pos c2, if_pos c2]
    obtain ⟨k, hk, h8⟩ := n18 c1 c2
    obtain ⟨r1, r2⟩ := feedL (x := x) 9 σ (upS μ 0 0) (n - 1) k m hk h8 (by omega) (by omega) h
    exact ⟨r1, r2.w (by omega)⟩
  · rw [if_neg c2, if_neg c2]
    exact ⟨rfl, h.w (by omega)⟩
theorem PP.reset0 {n m : Int} {σ μ : PS} (h : GS n σ μ ∧ GD m σ μ) : PP n m (f_X7_reset σ) (f_X8_reset μ) := by
  obtain ⟨ρ, e, r1, r2, r3, r4, r5⟩ := resetL 54 μ 0 0 rfl (by omega) (by omega)
  have e2 : f_X8_reset μ = f_X8_defaults (upA (upA (upS (upS (upS ρ 4 2) 5 0) 6 1) 0 6 720) 0 7 1200) := e
  have hs : szOk 2 := Or.inr (Or.inl rfl)
  have ho : bd 0 0 3 := ⟨by decide, by decide⟩
  have em := measE (μ := upA (upA (upS (upS (upS ρ 4 2) 5 0) 6 1) 0 6 720) 0 7 1200) rfl rfl hs ho
  rw [e2]
  refine ⟨?_, ?_, ?_⟩
  · unfold f_X7_reset
    try dsimp only
    rw [chooseE]
    refine GW.defaults ⟨⟨rfl, rfl⟩, ⟨rfl, rfl, rfl⟩, ⟨rfl, rfl, ?_, ?_, ?_, ?_, ?_⟩, fun i hi => absurd hi ?_, hs, ho, (show bd 1 1 99 from ⟨by decide, by decide⟩), (show bd 720 0 1966080 from ⟨by decide, by decide⟩), (show bd 1200 0 130000 from ⟨by decide, by decide⟩), (show bd 0 0 1 from ⟨by decide, by decide⟩), (show bd 0 0 1 from ⟨by decide, by decide⟩), (show bd 0 0 3 from ⟨by decide, by decide⟩), (show bd 0 0 1 from ⟨by decide, by decide⟩), (show bd 0 0 20 from ⟨by decide, by decide⟩)⟩
    · exact r5 8 (by omega) (by omega)
    · exact r5 9 (by omega) (by omega)
    · exact r5 10 (by omega) (by omega)
    · exact r5 11 (by omega) (by omega)
    · exact r5 12 (by omega) (by omega)
    · show ¬ (i : Int) < 0
      omega
  · unfold f_X7_reset f_X8_defaults
    try dsimp only
    rw [chooseE, em]
    show GSx n (σ.1 31) (σ.1 32) (σ.1 33) σ.2.2 (ρ.1 23) (ρ.1 24) (ρ.1 25) (ρ.2.1 4)
    rw [r1, r3 4 (by decide)]
    exact h.1
  · unfold f_X7_reset f_X8_defaults
    try dsimp only
    rw [chooseE, em]
    show GDx m (σ.1 34) (σ.2.1 4) (ρ.1 27) (ρ.2.1 5)
    rw [r1, r3 5 (by decide)]
    exact h.2
/-- the boxes out of the relation -/
theorem Bm.of {n : Int} {σ' μ μ' : PS} (h : Bm μ) (t : ∀ k : Nat, k ≠ 0 → k ≠ 29 → k ≠ 31 → μ'.1 k = μ.1 k) (hl : GL σ' μ') (hq : GQ σ' μ') : Bm μ' := by
  obtain ⟨c, f, s, t', ⟨e1, e2, e3, e4⟩, ⟨m1, m2⟩, ⟨c1, c2, c3, c4⟩, -⟩ := hq
  have b11 : μ'.2.1 0 11 = σ'.1 29 := hl.2.1.2.2.2.2.2.2.2.2.2.2.2.1
  have b12 : μ'.2.1 0 12 = σ'.1 30 := hl.2.1.2.2.2.2.2.2.2.2.2.2.2.2
  have c16 : bd (σ'.1 29) 0 1 := hl.2.2.2.2.2.2.2.2.2.2.2.2.2.2.2.2.2.2.2.1
  have c17 : bd (σ'.1 30) 0 20 := hl.2.2.2.2.2.2.2.2.2.2.2.2.2.2.2.2.2.2.2.2
  refine ⟨fun k => ?_, fun i => ?_⟩
  · by_cases q0 : k = 0
    · subst q0
      exact i32r _
    by_cases q1 : k = 29
    · subst q1
      show 0 ≤ (μ'.1 29).toInt ∧ (μ'.1 29).toInt ≤ 16
      rw [m1, e1]; omega
    by_cases q2 : k = 31
    · subst q2
      show 0 ≤ (μ'.1 31).toInt ∧ (μ'.1 31).toInt ≤ 4096
      rw [m2, e4]; omega
    rw [t k q0 q1 q2]
    exact h.1 k
  · by_cases q1 : i = 11
    · subst q1
      rw [b11]
      exact c16
    by_cases q2 : i = 12
    · subst q2
      rw [b12]
      exact c17
    rw [(bnD q1 q2).1, (bnD q1 q2).2]
    exact i32r _
theorem Bx.of {σ σ' μ' : PS} (h : Bx σ) (s : ∀ k : Nat, (k < 35 ∨ 39 ≤ k) → σ'.1 k = σ.1 k) (hq : GQ σ' μ') : Bx σ' := by
  obtain ⟨c, f, s', t', ⟨e1, e2, e3, e4⟩, -, ⟨c1, c2, c3, c4⟩, -⟩ := hq
  intro k
  by_cases q0 : k < 35 ∨ 39 ≤ k
  · rw [s k q0]
    exact h k
  rcases (show k = 35 ∨ k = 36 ∨ k = 37 ∨ k = 38 by omega) with rfl | rfl | rfl | rfl
  · show 0 ≤ (σ'.1 35).toInt ∧ (σ'.1 35).toInt ≤ 16
    rw [e1]; omega
  · show 0 ≤ (σ'.1 36).toInt ∧ (σ'.1 36).toInt ≤ 15
    rw [e2]; omega
  · show 0 ≤ (σ'.1 37).toInt ∧ (σ'.1 37).toInt ≤ 4095
    rw [e3]; omega
  · show 0 ≤ (σ'.1 38).toInt ∧ (σ'.1 38).toInt ≤ 4096
    rw [e4]; omega
theorem s02 {x : Int32} (h1 : ¬ x < 0) (h2 : x ≤ 2) : ∃ s : Nat, x.toInt = (s : Int) ∧ s < 3 := by
  rw [lt32, n0] at h1
  rw [le32, n2] at h2
  exact ⟨x.toInt.toNat, by omega, by omega⟩
theorem keepS {μ : PS} {x : Int32} (k : Nat) (hk : k ≠ 0) : (f_X8_keep μ x).1.1 k = μ.1 k := by
  unfold f_X8_keep
  by_cases c1 : x < 0
  · rw [if_pos c1]; exact up_ne hk
  rw [if_neg c1]
  by_cases c2 : x ≤ 2
  · rw [if_pos c2]
    obtain ⟨s, hs, h3⟩ := s02 c1 c2
    obtain ⟨ρ, e, r1, -⟩ := keepL 54 (upS μ 0 0) x 0 s 0 hs h3 rfl (by omega) (by omega)
    rw [e]
    show ρ.1 k = μ.1 k
    rw [r1]; exact up_ne hk
  · rw [if_neg c2]; exact up_ne hk
theorem bringS {μ : PS} {x : Int32} (k : Nat) (hk : k ≠ 0) : (f_X8_bring μ x).1.1 k = μ.1 k := by
  unfold f_X8_bring
  by_cases c1 : x < 0
  · rw [if_pos c1]; exact up_ne hk
  rw [if_neg c1]
  by_cases c2 : 2 < x
  · rw [if_pos c2]; exact up_ne hk
  rw [if_neg c2, if_neg c1]
  have c3 : x ≤ 2 := by rw [le32]; rw [lt32] at c2; omega
  rw [if_pos c3]
  by_cases c4 : μ.2.1 2 x.toNatClampNeg = 0
  · rw [if_pos c4]; exact up_ne hk
  rw [if_neg c4]
  obtain ⟨s, hs, h3⟩ := s02 c1 c3
  obtain ⟨ρ, e, r1, -⟩ := bringL 54 (upS μ 0 0) x 0 s 0 hs h3 rfl (by omega) (by omega)
  rw [e]
  show ρ.1 k = μ.1 k
  rw [r1]; exact up_ne hk
/-- the relation -/
def RR (k : Nat) (σ μ : PS) : Prop := k ≤ 512 ∧ Bx σ ∧ Bm μ ∧ Rel (8 * (k : Int)) σ μ
theorem RR.o {k : Nat} {σ μ μ' : PS} {z : Int32} (hk : k < 512) (h : RR k σ μ) (e : μ' = upS μ 0 z) : RR (k + 1) σ μ' := by
  obtain ⟨-, h2, h3, h4⟩ := h
  subst e
  refine ⟨by omega, h2, bmS_0 h3, ?_⟩
  have h5 : Rel (8 * (k : Int)) σ (upS μ 0 z) := h4
  exact h5.w (by omega)
theorem sims_RR : Sims RR := by
  refine ⟨fun k σ μ h => ?_, fun k σ μ x n hk h => ?_, fun k σ μ x y z hk h => ?_, fun k σ μ hk h => ?_, fun k σ μ x y hk h => ?_, fun k σ μ x hk h => ?_, fun k σ μ x hk h => ?_, fun k σ μ x y hk h => ?_, fun k σ μ x y hk h => ?_, fun k σ μ x hk h => ?_, fun k σ μ x hk h => ?_, fun k σ μ hk h => ?_, fun k σ μ x y hk h => ?_, fun k σ μ x hk h => ?_, fun k σ μ hk h => ?_⟩
  · obtain ⟨h1, h2, h3, h4⟩ := h
    have hd := h4.1.1.2.2.2.1
    refine ⟨h2, h3, hd.1, by have := hd.2; omega, ?_, fun hk x n c1 c2 => ?_⟩
    · obtain ⟨c, f, s, t, -, -, -, -, -, -, h50⟩ := h4.1.2.2.2.1
      exact h50
    · obtain ⟨j, hj, h8⟩ := n18 c1 c2
      exact F3L 9 σ (upS μ 0 0) (n - 1) (8 * (k : Int)) (by omega) (by omega) h4
  · obtain ⟨h1, h2, h3, h4⟩ := h
    obtain ⟨r1, r2⟩ := h4.feed (x := x) (n := n) (by omega)
    exact ⟨r1, by omega, bx_X7_feed h2, bm_X8_feed h3, r2.w (by omega)⟩
  · obtain ⟨h1, h2, h3, h4⟩ := h
    obtain ⟨r1, r2⟩ := h4.advance (x := x) (y := y) (z := z)
    exact ⟨r1, by omega, bx_X7_advance h2, bm_X8_advance h3, r2.w (by omega)⟩
  · obtain ⟨h1, h2, h3, h4⟩ := h
    exact ⟨by omega, bx_X7_due h2, bm_X8_due h3, h4.due.w (by omega)⟩
  · obtain ⟨h1, h2, h3, h4⟩ := h
    exact ⟨by omega, bx_X7_move h2, bm_X8_move h3, h4.move.w (by omega)⟩
  · obtain ⟨h1, h2, h3, h4⟩ := h
    obtain ⟨r1, r2⟩ := h4.keep (x := x)
    exact ⟨r1, by omega, bx_X7_keep h2, Bm.of (n := 0) h3 (fun k q _ _ => keepS k q) r2.1.1.1 r2.1.2.2.2.1, r2.w (by omega)⟩
  · obtain ⟨h1, h2, h3, h4⟩ := h
    obtain ⟨r1, r2⟩ := h4.bring (x := x)
    exact ⟨r1, by omega, bx_X7_bring h2, Bm.of (n := 0) h3 (fun k q _ _ => bringS k q) r2.1.1.1 r2.1.2.2.2.1, r2.w (by omega)⟩
  · obtain ⟨r1, r2, z, r3⟩ := PP.glyph (x := x) (y := y) (by have := h.1; omega) h.2.2.2.1.1
    exact ⟨r1, r2, h.o hk r3⟩
  · obtain ⟨r1, r2, z, r3⟩ := PP.page (x := x) (y := y) (by have := h.1; omega) h.2.2.2.1.1
    exact ⟨r1, r2, h.o hk r3⟩
  · obtain ⟨r1, r2, z, r3⟩ := GQ.other (x := x) h.2.2.2.1.2.2.2.1
    exact ⟨r1, r2, h.o hk r3⟩
  · obtain ⟨r1, r2, z, r3⟩ := GQ.data (x := x) h.2.2.2.1.2.2.2.1
    exact ⟨r1, r2, h.o hk r3⟩
  · obtain ⟨h1, h2, h3, h4⟩ := h
    obtain ⟨-, -, -, f7, f8⟩ := h4.1.2.2.2.1.take
    obtain ⟨r1, r2⟩ := h4.take
    exact ⟨r1, by omega, Bx.of h2 f7.1 r2.1.2.2.2.1, Bm.of (n := 0) h3 (fun k q1 q2 q3 => f8.1 k ⟨q1, q2, q3⟩) r2.1.1.1 r2.1.2.2.2.1, r2.w (by omega)⟩
  · obtain ⟨r1, r2, z, r3⟩ := PP.place (x := x) (y := y) h.2.2.2.1.1
    exact ⟨r1, r2, h.o hk r3⟩
  · obtain ⟨h1, h2, h3, h4⟩ := h
    obtain ⟨r1, r2⟩ := h4.look (x := x)
    exact ⟨r1, by omega, h2, bm_X8_look h3, r2.w (by omega)⟩
  · obtain ⟨h1, h2, h3, h4⟩ := h
    exact ⟨by omega, h2, h3, h4.w (by omega)⟩
theorem initL : ∀ (n : Nat) (τ : PS) (y : Int32) (k : Nat), y.toInt = (k : Int) → k ≤ 512 → 512 < n + k → ∃ ρ : PS, g_X8_init_t_74 n τ y = f_X8_reset ρ ∧ ρ.1 = τ.1 ∧ (∀ j : Nat, j ≠ 3 → ρ.2.1 j = τ.2.1 j) ∧ (∀ i : Nat, k ≤ i → i < 512 → ρ.2.1 3 i = -1) ∧ (∀ i : Nat, i < k → ρ.2.1 3 i = τ.2.1 3 i)
  | 0, τ, y, k, hy, hk, hn => absurd hn (by omega)
  | n + 1, τ, y, k, hy, hk, hn => by
    have z : (512 : Int32).toInt = 512 := rfl
    unfold g_X8_init_t_74
    try dsimp only
    by_cases hc : (512 : Int32) ≤ y
    · rw [if_pos hc]
      rw [le32] at hc
      exact ⟨τ, rfl, rfl, fun _ _ => rfl, fun i h1 h2 => absurd h1 (by omega), fun _ _ => rfl⟩
    · rw [if_neg hc]
      rw [le32] at hc
      rw [clampE hy]
      obtain ⟨ρ, e, r1, r2, r3, r4⟩ := initL n (upA τ 3 k (-1)) (y + 1) (k + 1) (by rw [i32add (by rw [n1]; omega) (by rw [n1]; omega), hy, n1]; omega) (by omega) (by omega)
      refine ⟨ρ, e, r1, fun j hj => (r2 j hj).trans (up_ne hj), fun i h1 h2 => ?_, fun i hi => ?_⟩
      · by_cases q : i = k
        · subst q
          rw [r4 i (by omega)]
          exact upd_eq (f := τ.2.1 3)
        · exact r3 i (by omega) h2
      · rw [r4 i (by omega)]
        exact upd_ne (f := τ.2.1 3) (by omega)
theorem Bx.z7 : Bx z7PS := fun k => by
  show bxl k ≤ 0 ∧ 0 ≤ bxh k
  unfold bxl bxh
  constructor <;> split <;> decide
theorem Bm.z : Bm zPS := ⟨fun k => by
  show bml k ≤ 0 ∧ 0 ≤ bmh k
  unfold bml bmh
  constructor <;> split <;> decide, fun i => by
  show bnl i ≤ 0 ∧ 0 ≤ bnh i
  unfold bnl bnh
  constructor <;> split <;> decide⟩
theorem init_RR : RR 0 (f_X7_init_t z7PS) (f_X8_init_t zPS) := by
  obtain ⟨ρ, e, r1, r2, r3, -⟩ := initL 513 zPS 0 0 rfl (by omega) (by omega)
  have hm : Bm (f_X8_init_t zPS) := by
    have hb : Bm ρ := ⟨fun k => by rw [r1]; exact Bm.z.1 k, fun i => by rw [r2 0 (by decide)]; exact Bm.z.2 i⟩
    show Bm (g_X8_init_t_74 513 zPS 0)
    rw [e]
    exact bm_X8_reset hb
  refine ⟨by omega, bx_X7_reset Bx.z7, hm, ?_⟩
  show Rel (8 * ((0 : Nat) : Int)) (f_X7_reset z7PS) (g_X8_init_t_74 513 zPS 0)
  rw [e]
  have hS : GS (8 * ((0 : Nat) : Int)) z7PS ρ := by
    show GSx _ (0 : Int32) 0 0 (fun _ => 0) (ρ.1 23) (ρ.1 24) (ρ.1 25) (ρ.2.1 4)
    rw [r1]
    exact ⟨⟨rfl, rfl, rfl, rfl⟩, ⟨by decide, by decide⟩, fun i (hi : (i : Int) < 0) => absurd hi (by omega)⟩
  have hD : GD (8 * ((0 : Nat) : Int)) z7PS ρ := by
    show GDx _ (0 : Int32) (fun _ => 0) (ρ.1 27) (ρ.2.1 5)
    rw [r1, r2 5 (by decide)]
    exact ⟨rfl, ⟨by decide, by decide⟩, fun i hi => rfl⟩
  have hP := PP.reset0 ⟨hS, hD⟩
  have f7 : Fr7 z7PS (f_X7_reset z7PS) := fr7_f_X7_reset Fr7.r
  have f8 : Fr8 ρ (f_X8_reset ρ) := fr8_f_X8_reset Fr8.r
  have hT : GT z7PS ρ := fun i hi => by
    show (-1 : Int32) = ρ.2.1 3 i ∧ bd (-1) (-1) 20000
    rw [r3 i (by omega) hi]
    exact ⟨rfl, by decide, by decide⟩
  have hK : GK z7PS ρ := GK.of fun j hj => by
    unfold K1
    rw [r2 2 (by decide)]
    exact ⟨rfl, fun q => absurd rfl q⟩
  have hQ : GQ z7PS ρ := ⟨0, 0, 0, 0, by
    unfold GQx
    rw [r1, r2 6 (by decide), r2 7 (by decide)]
    exact ⟨⟨rfl, rfl, rfl, rfl⟩, ⟨rfl, rfl⟩, by decide, fun i hi => absurd hi (by omega), fun i hi => absurd hi (by omega), rfl, by decide⟩⟩
  have hB : GB z7PS ρ := by
    show ρ.1 22 = 0
    rw [r1]; rfl
  have hG : GP z7PS ρ := by
    unfold GP
    rw [r1]
    exact ⟨⟨rfl, rfl, ⟨by decide, by decide⟩, by decide, by decide⟩, ⟨rfl, ⟨by decide, by decide⟩, by decide, by decide⟩, fun _ => rfl, fun q => absurd rfl q, fun (q : (0 : Int32) = 3) => absurd q (by decide)⟩
  exact ⟨⟨hP, RB.fr ⟨hT, hK, hQ, hB⟩ f7 f8⟩, hG.fr f7 f8⟩
