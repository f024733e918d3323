/-! the pure relation, part 1: layout, paper, stack -/
def bd (v : Int32) (lo hi : Int) : Prop := lo ≤ v.toInt ∧ v.toInt ≤ hi
/-- numbers of the layout and the paper: their bounds -/
def GLb (size orient copies width height top len left right H V x y wrap skip le font depth : Int32) : Prop :=
  (size = 1 ∨ size = 2 ∨ size = 3 ∨ size = 6 ∨ size = 26) ∧ bd orient 0 3 ∧ bd copies 1 99 ∧ bd width 10000 200000 ∧ bd height 10000 200000 ∧ bd top 0 200000 ∧ bd len 0 200000 ∧ bd left 0 width.toInt ∧ bd right 0 width.toInt ∧ bd H 0 1966080 ∧ bd V 0 200000 ∧ bd x 0 width.toInt ∧ bd y 0 height.toInt ∧ bd wrap 0 1 ∧ bd skip 0 1 ∧ bd le 0 3 ∧ bd font 0 1 ∧ bd depth 0 20
def GLx (size orient copies width height top len left right H V x y wrap skip le font depth : Int32) (A1 A2 : Nat → Int32) (ms mo mc mw mh : Int32) (B : Nat → Int32) : Prop :=
  (ms = size ∧ mo = orient ∧ mc = copies ∧ mw = width ∧ mh = height) ∧ (B 0 = x ∧ B 1 = y ∧ B 2 = left ∧ B 3 = right ∧ B 4 = top ∧ B 5 = len ∧ B 6 = H ∧ B 7 = V ∧ B 8 = wrap ∧ B 9 = skip ∧ B 10 = le ∧ B 11 = font ∧ B 12 = depth) ∧ (∀ i : Nat, (i : Int) < depth.toInt → B (13 + 2 * i) = A1 i ∧ B (14 + 2 * i) = A2 i) ∧ GLb size orient copies width height top len left right H V x y wrap skip le font depth
def GL (σ μ : PS) : Prop := GLx (σ.1 13) (σ.1 14) (σ.1 15) (σ.1 16) (σ.1 17) (σ.1 18) (σ.1 19) (σ.1 20) (σ.1 21) (σ.1 22) (σ.1 23) (σ.1 24) (σ.1 25) (σ.1 26) (σ.1 27) (σ.1 28) (σ.1 29) (σ.1 30) (σ.2.1 1) (σ.2.1 2) (μ.1 4) (μ.1 5) (μ.1 6) (μ.1 7) (μ.1 8) (μ.2.1 0)
theorem upd_ne {f : Nat → Int32} {k j : Nat} {v : Int32} (h : j ≠ k) : upd f k v j = f j := by simp only [upd, if_neg h]
/-- an array cell below 13 changes: the stack stays -/
theorem stk_up {B A1 A2 : Nat → Int32} {d : Int} {k : Nat} {v : Int32} (hk : k < 13) (h : ∀ i : Nat, (i : Int) < d → B (13 + 2 * i) = A1 i ∧ B (14 + 2 * i) = A2 i) : ∀ i : Nat, (i : Int) < d → upd B k v (13 + 2 * i) = A1 i ∧ upd B k v (14 + 2 * i) = A2 i := fun i hi => by
  rw [upd_ne (by omega), upd_ne (by omega)]
  exact h i hi
theorem i64I (x : Int32) : x.toInt64.toInt = x.toInt := Int32.toInt_toInt64 x
theorem i64r (x : Int64) : -9223372036854775808 ≤ x.toInt ∧ x.toInt ≤ 9223372036854775807 := ⟨Int64.le_toInt x, by have := Int64.toInt_lt x; omega⟩
theorem tI32 {x : Int64} (h1 : -2147483648 ≤ x.toInt) (h2 : x.toInt ≤ 2147483647) : x.toInt32.toInt = x.toInt := by
  rw [Int64.toInt_toInt32, Int.bmod_def]
  split <;> omega
/-- within, the same on both sides, and where it lies -/
theorem win_eq (v : Int64) (m : Int32) : f_X7_within v 0 m = f_X8_within v m := by
  unfold f_X7_within f_X8_within
  have : Int32.toInt64 0 = 0 := by decide
  rw [this]
theorem win_bd {v : Int64} {m : Int32} (hm : 0 ≤ m.toInt) : bd (f_X8_within v m) 0 m.toInt := by
  unfold f_X8_within bd
  have e0 : (0 : Int32).toInt = 0 := rfl
  have e1 : (0 : Int64).toInt = 0 := rfl
  have hr := i32r m
  split
  · rename_i h
    rw [Int64.le_iff_toInt_le] at h
    split
    · rename_i h2
      rw [Int64.le_iff_toInt_le, i64I] at h2
      rw [tI32 (by omega) (by omega)]
      omega
    · omega
  · omega
theorem win_id {v m : Int32} (h : bd v 0 m.toInt) : f_X8_within v.toInt64 m = v := by
  unfold f_X8_within
  have e1 : (0 : Int64).toInt = 0 := rfl
  have h1 : (0 : Int64) ≤ v.toInt64 := by rw [Int64.le_iff_toInt_le, i64I, e1]; exact h.1
  have h2 : v.toInt64 ≤ m.toInt64 := by rw [Int64.le_iff_toInt_le, i64I, i64I]; exact h.2
  rw [if_pos h1, if_pos h2]
  exact Int32.toInt_inj.mp (by rw [tI32 (by rw [i64I]; exact (i32r v).1) (by rw [i64I]; exact (i32r v).2), i64I])
theorem GL.setX {σ μ : PS} (v : Int64) (h : GL σ μ) : GL (f_X7_setX σ v) (f_X8_setX μ v) := by
  obtain ⟨⟨a1, a2, a3, a4, a5⟩, ⟨b0, b1, b2, b3, b4, b5, b6, b7, b8, b9, b10, b11, b12⟩, hs, c0, c1, c2, c3, c4, c5, c6, c7, c8, c9, c10, c11, c12⟩ := h
  refine ⟨⟨a1, a2, a3, a4, a5⟩, ⟨?_, b1, b2, b3, b4, b5, b6, b7, b8, b9, b10, b11, b12⟩, stk_up (by decide) hs, c0, c1, c2, c3, c4, c5, c6, c7, c8, c9, c10, ?_, c12⟩
  · show f_X8_within v (μ.1 7) = f_X7_within v 0 (σ.1 16)
    rw [win_eq, a4]
  · show bd (f_X7_within v 0 (σ.1 16)) 0 (σ.1 16).toInt
    rw [win_eq]
    exact win_bd (by have := c3.1; omega)
theorem GL.setY {σ μ : PS} (v : Int64) (h : GL σ μ) : GL (f_X7_setY σ v) (f_X8_setY μ v) := by
  obtain ⟨⟨a1, a2, a3, a4, a5⟩, ⟨b0, b1, b2, b3, b4, b5, b6, b7, b8, b9, b10, b11, b12⟩, hs, c0, c1, c2, c3, c4, c5, c6, c7, c8, c9, c10, c11, c12, c13⟩ := h
  refine ⟨⟨a1, a2, a3, a4, a5⟩, ⟨b0, ?_, b2, b3, b4, b5, b6, b7, b8, b9, b10, b11, b12⟩, stk_up (by decide) hs, c0, c1, c2, c3, c4, c5, c6, c7, c8, c9, c10, c11, ?_, c13⟩
  · show f_X8_within v (μ.1 8) = f_X7_within v 0 (σ.1 17)
    rw [win_eq, a5]
  · show bd (f_X7_within v 0 (σ.1 17)) 0 (σ.1 17).toInt
    rw [win_eq]
    exact win_bd (by have := c4.1; omega)
theorem GL.home {σ μ : PS} (h : GL σ μ) : f_X1_home σ = f_X8_home μ := by
  obtain ⟨-, ⟨b0, b1, b2, b3, b4, b5, b6, b7, -⟩, -⟩ := h
  show σ.1 18 + σ.1 23 * 3 / 4 = μ.2.1 0 4 + μ.2.1 0 7 * 3 / 4
  rw [b4, b7]
theorem GL.ret {σ μ : PS} (h : GL σ μ) : GL (f_X7_carriageReturn σ) (f_X8_carriageReturn μ) := by
  have h2 := h
  obtain ⟨⟨a1, a2, a3, a4, a5⟩, ⟨b0, b1, b2, b3, b4, b5, b6, b7, b8, b9, b10, b11, b12⟩, hs, c0, c1, c2, c3, c4, c5, c6, c7, c8, c9, c10, c11, c12⟩ := h
  refine ⟨⟨a1, a2, a3, a4, a5⟩, ⟨?_, b1, b2, b3, b4, b5, b6, b7, b8, b9, b10, b11, b12⟩, stk_up (by decide) hs, c0, c1, c2, c3, c4, c5, c6, c7, c8, c9, c10, c7, c12⟩
  show f_X8_within (μ.2.1 0 2).toInt64 (μ.1 7) = σ.1 20
  rw [b2, a4]
  exact win_id c7
