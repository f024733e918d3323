/-! the pure relation, part 2: layout, sheet, pages -/
/-- numbers of the layout and the paper: their bounds -/
def GLb (size orient copies width height top len left right H V x y wrap skip le font depth : Int32) : Prop :=
  (size = 1 ∨ size = 2 ∨ size = 3 ∨ size = 6 ∨ size = 26) ∧ bd orient 0 3 ∧ bd copies 1 99 ∧ bd width 10000 130000 ∧ bd height 10000 130000 ∧ bd top 0 130000 ∧ bd len 0 130000 ∧ bd left 0 width.toInt ∧ bd right 0 width.toInt ∧ bd H 0 1966080 ∧ bd V 0 130000 ∧ bd x 0 width.toInt ∧ bd y 0 height.toInt ∧ bd wrap 0 1 ∧ bd skip 0 1 ∧ bd le 0 3 ∧ bd font 0 1 ∧ bd depth 0 20
def GLx (size orient copies width height top len left right H V x y wrap skip le font depth : Int32) (A1 A2 : Nat → Int32) (ms mo mc mw mh : Int32) (B : Nat → Int32) : Prop :=
  (ms = size ∧ mo = orient ∧ mc = copies ∧ mw = width ∧ mh = height) ∧ (B 0 = x ∧ B 1 = y ∧ B 2 = left ∧ B 3 = right ∧ B 4 = top ∧ B 5 = len ∧ B 6 = H ∧ B 7 = V ∧ B 8 = wrap ∧ B 9 = skip ∧ B 10 = le ∧ B 11 = font ∧ B 12 = depth) ∧ (∀ i : Nat, (i : Int) < depth.toInt → B (13 + 2 * i) = A1 i ∧ B (14 + 2 * i) = A2 i) ∧ GLb size orient copies width height top len left right H V x y wrap skip le font depth
def GL (σ μ : PS) : Prop := GLx (σ.1 13) (σ.1 14) (σ.1 15) (σ.1 16) (σ.1 17) (σ.1 18) (σ.1 19) (σ.1 20) (σ.1 21) (σ.1 22) (σ.1 23) (σ.1 24) (σ.1 25) (σ.1 26) (σ.1 27) (σ.1 28) (σ.1 29) (σ.1 30) (σ.2.1 1) (σ.2.1 2) (μ.1 4) (μ.1 5) (μ.1 6) (μ.1 7) (μ.1 8) (μ.2.1 0)
/-- an array cell below 13 changes: the stack stays -/
theorem stk_up {B A1 A2 : Nat → Int32} {d : Int} {k : Nat} {v : Int32} (hk : k < 13) (h : ∀ i : Nat, (i : Int) < d → B (13 + 2 * i) = A1 i ∧ B (14 + 2 * i) = A2 i) : ∀ i : Nat, (i : Int) < d → upd B k v (13 + 2 * i) = A1 i ∧ upd B k v (14 + 2 * i) = A2 i := fun i hi => by
  rw [upd_ne (by omega), upd_ne (by omega)]
  exact h i hi
/-- within, the same on both sides, and where it lies -/
theorem win_eq (v : Int64) (m : Int32) : f_X7_within v 0 m = f_X8_within v m := by
  unfold f_X7_within f_X8_within
  have : Int32.toInt64 0 = 0 := by decide
  rw [this]
theorem win_bd {v : Int64} {m : Int32} (hm : 0 ≤ m.toInt) : bd (f_X8_within v m) 0 m.toInt := by
  unfold f_X8_within bd
  have e0 : (0 : Int32).toInt = 0 := rfl
  have e1 : (0 : Int64).toInt = 0 := rfl
  have hr := i32r m
  split
  · rename_i h
    rw [le64] at h
    split
    · rename_i h2
      rw [le64, i64I] at h2
      rw [tI32 (by omega) (by omega)]
      omega
    · omega
  · omega
/-- within as a number -/
theorem win_I {v : Int64} {m : Int32} (hm : 0 ≤ m.toInt) : (f_X8_within v m).toInt = if 0 ≤ v.toInt then (if v.toInt ≤ m.toInt then v.toInt else m.toInt) else 0 := by
  unfold f_X8_within
  have e1 : (0 : Int64).toInt = 0 := rfl
  have hr := i32r m
  simp only [le64, i64I, e1]
  split
  · split
    · rw [tI32 (by omega) (by omega)]
    · rfl
  · rfl
theorem win_id {v m : Int32} (h : bd v 0 m.toInt) : f_X8_within v.toInt64 m = v := by
  apply i32ext
  have h1 := h.1
  have h2 := h.2
  rw [win_I (by omega), i64I, if_pos h1, if_pos h2]
theorem GL.sX {σ μ : PS} {v w : Int32} (h : GL σ μ) (e : w = v) (hv : bd v 0 (σ.1 16).toInt) : GL (upS σ 24 v) (upA μ 0 0 w) := by
  obtain ⟨⟨a1, a2, a3, a4, a5⟩, ⟨b0, b1, b2, b3, b4, b5, b6, b7, b8, b9, b10, b11, b12⟩, hs, c0, c1, c2, c3, c4, c5, c6, c7, c8, c9, c10, c11, c12, c13, c14, c15, c16, c17⟩ := h
  exact ⟨⟨a1, a2, a3, a4, a5⟩, ⟨e, b1, b2, b3, b4, b5, b6, b7, b8, b9, b10, b11, b12⟩, stk_up (by decide) hs, c0, c1, c2, c3, c4, c5, c6, c7, c8, c9, c10, hv, c12, c13, c14, c15, c16, c17⟩
theorem GL.sY {σ μ : PS} {v w : Int32} (h : GL σ μ) (e : w = v) (hv : bd v 0 (σ.1 17).toInt) : GL (upS σ 25 v) (upA μ 0 1 w) := by
  obtain ⟨⟨a1, a2, a3, a4, a5⟩, ⟨b0, b1, b2, b3, b4, b5, b6, b7, b8, b9, b10, b11, b12⟩, hs, c0, c1, c2, c3, c4, c5, c6, c7, c8, c9, c10, c11, c12, c13, c14, c15, c16, c17⟩ := h
  exact ⟨⟨a1, a2, a3, a4, a5⟩, ⟨b0, e, b2, b3, b4, b5, b6, b7, b8, b9, b10, b11, b12⟩, stk_up (by decide) hs, c0, c1, c2, c3, c4, c5, c6, c7, c8, c9, c10, c11, hv, c13, c14, c15, c16, c17⟩
theorem GL.sLeft {σ μ : PS} {v w : Int32} (h : GL σ μ) (e : w = v) (hv : bd v 0 (σ.1 16).toInt) : GL (upS σ 20 v) (upA μ 0 2 w) := by
  obtain ⟨⟨a1, a2, a3, a4, a5⟩, ⟨b0, b1, b2, b3, b4, b5, b6, b7, b8, b9, b10, b11, b12⟩, hs, c0, c1, c2, c3, c4, c5, c6, c7, c8, c9, c10, c11, c12, c13, c14, c15, c16, c17⟩ := h
  exact ⟨⟨a1, a2, a3, a4, a5⟩, ⟨b0, b1, e, b3, b4, b5, b6, b7, b8, b9, b10, b11, b12⟩, stk_up (by decide) hs, c0, c1, c2, c3, c4, c5, c6, hv, c8, c9, c10, c11, c12, c13, c14, c15, c16, c17⟩
theorem GL.sRight {σ μ : PS} {v w : Int32} (h : GL σ μ) (e : w = v) (hv : bd v 0 (σ.1 16).toInt) : GL (upS σ 21 v) (upA μ 0 3 w) := by
  obtain ⟨⟨a1, a2, a3, a4, a5⟩, ⟨b0, b1, b2, b3, b4, b5, b6, b7, b8, b9, b10, b11, b12⟩, hs, c0, c1, c2, c3, c4, c5, c6, c7, c8, c9, c10, c11, c12, c13, c14, c15, c16, c17⟩ := h
  exact ⟨⟨a1, a2, a3, a4, a5⟩, ⟨b0, b1, b2, e, b4, b5, b6, b7, b8, b9, b10, b11, b12⟩, stk_up (by decide) hs, c0, c1, c2, c3, c4, c5, c6, c7, hv, c9, c10, c11, c12, c13, c14, c15, c16, c17⟩
theorem GL.sTop {σ μ : PS} {v w : Int32} (h : GL σ μ) (e : w = v) (hv : bd v 0 130000) : GL (upS σ 18 v) (upA μ 0 4 w) := by
  obtain ⟨⟨a1, a2, a3, a4, a5⟩, ⟨b0, b1, b2, b3, b4, b5, b6, b7, b8, b9, b10, b11, b12⟩, hs, c0, c1, c2, c3, c4, c5, c6, c7, c8, c9, c10, c11, c12, c13, c14, c15, c16, c17⟩ := h
  exact ⟨⟨a1, a2, a3, a4, a5⟩, ⟨b0, b1, b2, b3, e, b5, b6, b7, b8, b9, b10, b11, b12⟩, stk_up (by decide) hs, c0, c1, c2, c3, c4, hv, c6, c7, c8, c9, c10, c11, c12, c13, c14, c15, c16, c17⟩
theorem GL.sLen {σ μ : PS} {v w : Int32} (h : GL σ μ) (e : w = v) (hv : bd v 0 130000) : GL (upS σ 19 v) (upA μ 0 5 w) := by
  obtain ⟨⟨a1, a2, a3, a4, a5⟩, ⟨b0, b1, b2, b3, b4, b5, b6, b7, b8, b9, b10, b11, b12⟩, hs, c0, c1, c2, c3, c4, c5, c6, c7, c8, c9, c10, c11, c12, c13, c14, c15, c16, c17⟩ := h
  exact ⟨⟨a1, a2, a3, a4, a5⟩, ⟨b0, b1, b2, b3, b4, e, b6, b7, b8, b9, b10, b11, b12⟩, stk_up (by decide) hs, c0, c1, c2, c3, c4, c5, hv, c7, c8, c9, c10, c11, c12, c13, c14, c15, c16, c17⟩
theorem GL.sH {σ μ : PS} {v w : Int32} (h : GL σ μ) (e : w = v) (hv : bd v 0 1966080) : GL (upS σ 22 v) (upA μ 0 6 w) := by
  obtain ⟨⟨a1, a2, a3, a4, a5⟩, ⟨b0, b1, b2, b3, b4, b5, b6, b7, b8, b9, b10, b11, b12⟩, hs, c0, c1, c2, c3, c4, c5, c6, c7, c8, c9, c10, c11, c12, c13, c14, c15, c16, c17⟩ := h
  exact ⟨⟨a1, a2, a3, a4, a5⟩, ⟨b0, b1, b2, b3, b4, b5, e, b7, b8, b9, b10, b11, b12⟩, stk_up (by decide) hs, c0, c1, c2, c3, c4, c5, c6, c7, c8, hv, c10, c11, c12, c13, c14, c15, c16, c17⟩
theorem GL.sV {σ μ : PS} {v w : Int32} (h : GL σ μ) (e : w = v) (hv : bd v 0 130000) : GL (upS σ 23 v) (upA μ 0 7 w) := by
  obtain ⟨⟨a1, a2, a3, a4, a5⟩, ⟨b0, b1, b2, b3, b4, b5, b6, b7, b8, b9, b10, b11, b12⟩, hs, c0, c1, c2, c3, c4, c5, c6, c7, c8, c9, c10, c11, c12, c13, c14, c15, c16, c17⟩ := h
  exact ⟨⟨a1, a2, a3, a4, a5⟩, ⟨b0, b1, b2, b3, b4, b5, b6, e, b8, b9, b10, b11, b12⟩, stk_up (by decide) hs, c0, c1, c2, c3, c4, c5, c6, c7, c8, c9, hv, c11, c12, c13, c14, c15, c16, c17⟩
theorem GL.sWrap {σ μ : PS} {v w : Int32} (h : GL σ μ) (e : w = v) (hv : bd v 0 1) : GL (upS σ 26 v) (upA μ 0 8 w) := by
  obtain ⟨⟨a1, a2, a3, a4, a5⟩, ⟨b0, b1, b2, b3, b4, b5, b6, b7, b8, b9, b10, b11, b12⟩, hs, c0, c1, c2, c3, c4, c5, c6, c7, c8, c9, c10, c11, c12, c13, c14, c15, c16, c17⟩ := h
  exact ⟨⟨a1, a2, a3, a4, a5⟩, ⟨b0, b1, b2, b3, b4, b5, b6, b7, e, b9, b10, b11, b12⟩, stk_up (by decide) hs, c0, c1, c2, c3, c4, c5, c6, c7, c8, c9, c10, c11, c12, hv, c14, c15, c16, c17⟩
theorem GL.sSkip {σ μ : PS} {v w : Int32} (h : GL σ μ) (e : w = v) (hv : bd v 0 1) : GL (upS σ 27 v) (upA μ 0 9 w) := by
  obtain ⟨⟨a1, a2, a3, a4, a5⟩, ⟨b0, b1, b2, b3, b4, b5, b6, b7, b8, b9, b10, b11, b12⟩, hs, c0, c1, c2, c3, c4, c5, c6, c7, c8, c9, c10, c11, c12, c13, c14, c15, c16, c17⟩ := h
  exact ⟨⟨a1, a2, a3, a4, a5⟩, ⟨b0, b1, b2, b3, b4, b5, b6, b7, b8, e, b10, b11, b12⟩, stk_up (by decide) hs, c0, c1, c2, c3, c4, c5, c6, c7, c8, c9, c10, c11, c12, c13, hv, c15, c16, c17⟩
theorem GL.sLe {σ μ : PS} {v w : Int32} (h : GL σ μ) (e : w = v) (hv : bd v 0 3) : GL (upS σ 28 v) (upA μ 0 10 w) := by
  obtain ⟨⟨a1, a2, a3, a4, a5⟩, ⟨b0, b1, b2, b3, b4, b5, b6, b7, b8, b9, b10, b11, b12⟩, hs, c0, c1, c2, c3, c4, c5, c6, c7, c8, c9, c10, c11, c12, c13, c14, c15, c16, c17⟩ := h
  exact ⟨⟨a1, a2, a3, a4, a5⟩, ⟨b0, b1, b2, b3, b4, b5, b6, b7, b8, b9, e, b11, b12⟩, stk_up (by decide) hs, c0, c1, c2, c3, c4, c5, c6, c7, c8, c9, c10, c11, c12, c13, c14, hv, c16, c17⟩
theorem GL.sFont {σ μ : PS} {v w : Int32} (h : GL σ μ) (e : w = v) (hv : bd v 0 1) : GL (upS σ 29 v) (upA μ 0 11 w) := by
  obtain ⟨⟨a1, a2, a3, a4, a5⟩, ⟨b0, b1, b2, b3, b4, b5, b6, b7, b8, b9, b10, b11, b12⟩, hs, c0, c1, c2, c3, c4, c5, c6, c7, c8, c9, c10, c11, c12, c13, c14, c15, c16, c17⟩ := h
  exact ⟨⟨a1, a2, a3, a4, a5⟩, ⟨b0, b1, b2, b3, b4, b5, b6, b7, b8, b9, b10, e, b12⟩, stk_up (by decide) hs, c0, c1, c2, c3, c4, c5, c6, c7, c8, c9, c10, c11, c12, c13, c14, c15, hv, c17⟩
theorem GL.sCopies {σ μ : PS} {v w : Int32} (h : GL σ μ) (e : w = v) (hv : bd v 1 99) : GL (upS σ 15 v) (upS μ 6 w) := by
  obtain ⟨⟨a1, a2, a3, a4, a5⟩, ⟨b0, b1, b2, b3, b4, b5, b6, b7, b8, b9, b10, b11, b12⟩, hs, c0, c1, c2, c3, c4, c5, c6, c7, c8, c9, c10, c11, c12, c13, c14, c15, c16, c17⟩ := h
  exact ⟨⟨a1, a2, e, a4, a5⟩, ⟨b0, b1, b2, b3, b4, b5, b6, b7, b8, b9, b10, b11, b12⟩, hs, c0, c1, hv, c3, c4, c5, c6, c7, c8, c9, c10, c11, c12, c13, c14, c15, c16, c17⟩
theorem GL.setX {σ μ : PS} {v w : Int64} (h : GL σ μ) (e : w = v) : GL (f_X7_setX σ v) (f_X8_setX μ w) := by
  have h3 := h.2.2.2.2.2.2.1
  subst e
  refine h.sX ?_ ?_
  · rw [win_eq, h.1.2.2.2.1]
  · rw [win_eq]
    exact win_bd (by have := h3.1; omega)
theorem GL.setY {σ μ : PS} {v w : Int64} (h : GL σ μ) (e : w = v) : GL (f_X7_setY σ v) (f_X8_setY μ w) := by
  have h3 := h.2.2.2.2.2.2.2.1
  subst e
  refine h.sY ?_ ?_
  · rw [win_eq, h.1.2.2.2.2]
  · rw [win_eq]
    exact win_bd (by have := h3.1; omega)
theorem GL.home {σ μ : PS} (h : GL σ μ) : f_X8_home μ = f_X1_home σ := by
  obtain ⟨-, ⟨b0, b1, b2, b3, b4, b5, b6, b7, -⟩, -⟩ := h
  show μ.2.1 0 4 + μ.2.1 0 7 * 3 / 4 = σ.1 18 + σ.1 23 * 3 / 4
  rw [b4, b7]
theorem GL.ret {σ μ : PS} (h : GL σ μ) : GL (f_X7_carriageReturn σ) (f_X8_carriageReturn μ) := by
  have h2 := h
  obtain ⟨⟨a1, a2, a3, a4, a5⟩, ⟨b0, b1, b2, b3, b4, b5, b6, b7, b8, b9, b10, b11, b12⟩, hs, c0, c1, c2, c3, c4, c5, c6, c7, c8, c9, c10, c11, c12, c13, c14, c15, c16, c17⟩ := h
  refine h2.sX ?_ c7
  show f_X8_within (μ.2.1 0 2).toInt64 (μ.1 7) = σ.1 20
  rw [b2, a4]
  exact win_id c7
/-- one glyph in a long -/
def pk (x1 x2 x3 x4 : Int32) : Int64 := (((((Int32.toInt64 x1) <<< (Int32.toInt64 26 &&& 63)) ||| ((Int32.toInt64 x2) <<< (Int32.toInt64 9 &&& 63))) ||| ((Int32.toInt64 x3) <<< (Int32.toInt64 1 &&& 63))) ||| (Int32.toInt64 x4))
def GSx (n : Int) (cnt came due : Int32) (G : Nat → Int64) (mg mall mt : Int32) (B : Nat → Int32) : Prop :=
  (cnt = mg ∧ came = mg ∧ mall = mg ∧ due = mt) ∧ bd mg 0 n ∧ ∀ i : Nat, (i : Int) < mg.toInt → G i = pk (B (4 * i)) (B (4 * i + 1)) (B (4 * i + 2)) (B (4 * i + 3)) ∧ bd (B (4 * i)) 0 131071 ∧ bd (B (4 * i + 1)) 0 131071 ∧ bd (B (4 * i + 2)) 0 255 ∧ bd (B (4 * i + 3)) 0 1
def GS (n : Int) (σ μ : PS) : Prop := GSx n (σ.1 31) (σ.1 32) (σ.1 33) σ.2.2 (μ.1 23) (μ.1 24) (μ.1 25) (μ.2.1 4)
def GDx (n : Int) (cnt : Int32) (A4 : Nat → Int32) (mp : Int32) (B : Nat → Int32) : Prop := cnt = mp ∧ bd mp 0 n ∧ ∀ i : Nat, i < 160 → A4 i = B i
def GD (n : Int) (σ μ : PS) : Prop := GDx n (σ.1 34) (σ.2.1 4) (μ.1 27) (μ.2.1 5)
def PP (n m : Int) (σ μ : PS) : Prop := GL σ μ ∧ GS n σ μ ∧ GD m σ μ
theorem GS.w {n m : Int} {σ μ : PS} (hm : n ≤ m) (h : GS n σ μ) : GS m σ μ := ⟨h.1, ⟨h.2.1.1, Int.le_trans h.2.1.2 hm⟩, h.2.2⟩
theorem GD.w {n m : Int} {σ μ : PS} (hm : n ≤ m) (h : GD n σ μ) : GD m σ μ := ⟨h.1, ⟨h.2.1.1, Int.le_trans h.2.1.2 hm⟩, h.2.2⟩
theorem PP.w {n m : Int} {σ μ : PS} (h : PP n m σ μ) : PP n (m + 1) σ μ := ⟨h.1, h.2.1, h.2.2.w (by omega)⟩
theorem PP.wn {n m : Int} {σ μ : PS} (h : PP n m σ μ) : PP (n + 1) m σ μ := ⟨h.1, h.2.1.w (by omega), h.2.2⟩
theorem PP.setX {n m : Int} {σ μ : PS} {v w : Int64} (h : PP n m σ μ) (e : w = v) : PP n m (f_X7_setX σ v) (f_X8_setX μ w) := ⟨h.1.setX e, h.2⟩
theorem PP.setY {n m : Int} {σ μ : PS} {v w : Int64} (h : PP n m σ μ) (e : w = v) : PP n m (f_X7_setY σ v) (f_X8_setY μ w) := ⟨h.1.setY e, h.2⟩
theorem PP.ret {n m : Int} {σ μ : PS} (h : PP n m σ μ) : PP n m (f_X7_carriageReturn σ) (f_X8_carriageReturn μ) := ⟨h.1.ret, h.2⟩
theorem upd_rel {f g : Nat → Int32} {N k l : Nat} {v w : Int32} (e : k = l) (e2 : v = w) (h : ∀ i : Nat, i < N → f i = g i) : ∀ i : Nat, i < N → upd f k v i = upd g l w i := fun i hi => by
  subst e e2
  by_cases q : i = k
  · subst q; rw [upd_eq, upd_eq]
  · rw [upd_ne q, upd_ne q]; exact h i hi
theorem fmE {p : Int32} (h : 0 ≤ p.toInt) : f_J9_floorMod_7cf53 p 40 * 4 = 4 * (p - p / 40 * 40) := by
  have hx : 0 ≤ p ^^^ (40 : Int32) := by
    rw [le32]
    have e0 : (0 : Int32).toInt = 0 := rfl
    rw [e0]
    have h1 : (p.toBitVec.msb = false) := by
      rw [BitVec.msb_eq_toInt]
      have : p.toBitVec.toInt = p.toInt := rfl
      rw [this]
      simp only [decide_eq_false_iff_not]; omega
    have h2 : ((p ^^^ (40 : Int32)).toBitVec.msb = false) := by
      rw [Int32.toBitVec_xor, BitVec.msb_xor, h1]; rfl
    rw [BitVec.msb_eq_toInt] at h2
    have : (p ^^^ (40 : Int32)).toBitVec.toInt = (p ^^^ (40 : Int32)).toInt := rfl
    rw [this] at h2
    simp only [decide_eq_false_iff_not] at h2
    omega
  unfold f_J9_floorMod_7cf53
  dsimp only
  rw [if_pos hx, Int32.mul_comm]
theorem PP.eject {n m : Int} {σ μ : PS} (hn : m ≤ 1000000) (h : PP n m σ μ) : PP n (m + 1) (f_X7_eject σ) (f_X8_eject μ) := by
  obtain ⟨hl, ⟨⟨s1, s2, s3, s4⟩, s5, s6⟩, d1, d2, d3⟩ := h
  have g2 := d2.1
  have g3 := d2.2
  refine ⟨?_, ?_, ?_⟩
  · refine GL.setY (σ := f_X6_clear (f_X0_add σ (σ.1 32))) hl ?_
    exact congrArg Int32.toInt64 (GL.home (σ := f_X6_clear (f_X0_add σ (σ.1 32))) hl)
  · refine ⟨⟨rfl, rfl, rfl, rfl⟩, ⟨Int.le_refl 0, ?_⟩, fun i hi => absurd hi ?_⟩
    · exact Int.le_trans s5.1 s5.2
    · show ¬ (i : Int) < 0
      omega
  · have e1 : (1 : Int32).toInt = 1 := rfl
    have ei : f_J9_floorMod_7cf53 (σ.1 34) 40 * 4 = 4 * (μ.1 27 - μ.1 27 / 40 * 40) := by rw [d1]; exact fmE d2.1
    refine ⟨?_, ?_, ?_⟩
    · show σ.1 34 + 1 = μ.1 27 + 1
      rw [d1]
    · show bd (μ.1 27 + 1) 0 (m + 1)
      unfold bd
      rw [i32add (by omega) (by omega), e1]
      omega
    · refine upd_rel (congrArg (fun z => Int32.toNatClampNeg (z + 3)) ei) hl.1.2.2.1.symm ?_
      refine upd_rel (congrArg (fun z => Int32.toNatClampNeg (z + 2)) ei) hl.1.2.1.symm ?_
      refine upd_rel (congrArg (fun z => Int32.toNatClampNeg (z + 1)) ei) hl.1.1.symm ?_
      refine upd_rel (congrArg Int32.toNatClampNeg ei) (s2.trans s3.symm) ?_
      exact d3
theorem dueE {n m : Int} {σ μ : PS} (h : PP n m σ μ) : (f_X6_isDue σ = 0) ↔ (¬ (0 : Int32) < μ.1 24 ∧ μ.1 25 = 0) := by
  obtain ⟨hl, ⟨⟨s1, s2, s3, s4⟩, s5, s6⟩, d1, d2, d3⟩ := h
  unfold f_X6_isDue
  rw [s4, s1, s3]
  by_cases e : μ.1 25 = 0
  · rw [if_pos e]
    by_cases f : μ.1 23 ≤ 0
    · rw [if_pos f]
      exact ⟨fun _ => ⟨fun q => absurd (lt32.mp q) (Int.not_lt.mpr (le32.mp f)), e⟩, fun _ => rfl⟩
    · rw [if_neg f]
      exact ⟨fun q => absurd q (by decide), fun q => absurd (lt32.mpr (Int.not_le.mp (fun z => f (le32.mpr z)))) q.1⟩
  · rw [if_neg e]
    exact ⟨fun q => absurd q (by decide), fun q => absurd q.2 e⟩
theorem PP.ejectIfDue {n m : Int} {σ μ : PS} (hn : m ≤ 1000000) (h : PP n m σ μ) : PP n (m + 1) (if f_X6_isDue σ = 0 then σ else f_X7_eject σ) (f_X8_ejectIfDue μ) := by
  have e := dueE h
  unfold f_X8_ejectIfDue
  dsimp only
  by_cases c : f_X6_isDue σ = 0
  · rw [if_pos c, if_neg (e.mp c).1, if_pos (e.mp c).2]
    exact h.w
  · rw [if_neg c]
    by_cases d : (0 : Int32) < μ.1 24
    · rw [if_pos d]; exact h.eject hn
    · rw [if_neg d, if_neg (fun q => c (e.mpr ⟨d, q⟩))]; exact h.eject hn
theorem PP.lineFeed {n m : Int} {σ μ : PS} {s t : Int32} (hn : m ≤ 1000000) (h : PP n m σ μ) (et : t = s) (hs : bd s 0 130000) : PP n (m + 1) (f_X7_lineFeed σ s) (f_X8_lineFeed μ t) := by
  subst et
  obtain ⟨⟨a1, a2, a3, a4, a5⟩, ⟨b0, b1, b2, b3, b4, b5, b6, b7, b8, b9, b10, b11, b12⟩, -, c0, c1, c2, c3, c4, c5, c6, c7, c8, c9, c10, c11, c12, c13, c14, c15, c16, c17⟩ := h.1
  unfold f_X7_lineFeed f_X8_lineFeed
  dsimp only
  rw [a5, b1, b9, b4, b5]
  have q1 := hs.1
  have q2 := hs.2
  have q3 := c12.1
  have q4 := c12.2
  have q5 := c4.1
  have q6 := c4.2
  have q7 := c5.1
  have q8 := c5.2
  have q9 := c6.1
  have q10 := c6.2
  have e1 : (σ.1 25 + t).toInt = (σ.1 25).toInt + t.toInt := i32add (by omega) (by omega)
  have e2 : ((σ.1 25).toInt64 + t.toInt64).toInt = (σ.1 25).toInt + t.toInt := by rw [i64add (by rw [i64I, i64I]; omega) (by rw [i64I, i64I]; omega), i64I, i64I]
  have e3 : (σ.1 18 + σ.1 19).toInt = (σ.1 18).toInt + (σ.1 19).toInt := i32add (by omega) (by omega)
  have e4 : ((σ.1 18).toInt64 + (σ.1 19).toInt64).toInt = (σ.1 18).toInt + (σ.1 19).toInt := by rw [i64add (by rw [i64I, i64I]; omega) (by rw [i64I, i64I]; omega), i64I, i64I]
  have hy : ¬ σ.1 17 < σ.1 25 + t → PP n (m + 1) (upS σ 25 (σ.1 25 + t)) (f_X8_setY μ ((σ.1 25).toInt64 + t.toInt64)) := by
    intro hc
    rw [lt32, e1] at hc
    refine PP.w ⟨h.1.sY ?_ ?_, h.2⟩
    · rw [a5]
      apply i32ext
      rw [win_I (by omega), e2, if_pos (by omega), if_pos (by omega), e1]
    · unfold bd
      rw [e1]
      omega
  refine ite2 (P := PP n (m + 1)) ?_ (fun _ _ => h.eject hn) (fun hc _ => ?_)
  · rw [lt32, lt64, e1, e2, i64I]
  · by_cases hk : σ.1 27 = 0
    · have hk2 : ¬ σ.1 27 = 1 := fun q => absurd (hk.symm.trans q) (by decide)
      rw [if_pos hk, if_neg hk2]
      exact hy hc
    · have hk2 : σ.1 27 = 1 := by
        apply i32ext
        have z0 : (0 : Int32).toInt = 0 := rfl
        have z1 : (1 : Int32).toInt = 1 := rfl
        have := c14.1
        have := c14.2
        have : (σ.1 27).toInt ≠ 0 := fun q => hk (i32ext q)
        omega
      rw [if_neg hk, if_pos hk2]
      refine ite2 (P := PP n (m + 1)) ?_ (fun _ _ => hy hc) (fun _ _ => h.eject hn)
      rw [le32, le64, e1, e2, e3, e4]
