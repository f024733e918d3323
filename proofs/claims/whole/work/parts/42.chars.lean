/-! the pure relation, part 3: characters, control codes, paper -/
def GT (σ μ : PS) : Prop := ∀ i : Nat, i < 512 → σ.2.1 0 i = μ.2.1 3 i ∧ bd (σ.2.1 0 i) (-1) 20000
theorem updL_eq {f : Nat → Int64} {k : Nat} {v : Int64} : vp_updL f k v k = v := by simp only [vp_updL, if_true]
theorem updL_ne {f : Nat → Int64} {k j : Nat} {v : Int64} (h : j ≠ k) : vp_updL f k v j = f j := by simp only [vp_updL, if_neg h]
theorem PP.put {n m : Int} {σ μ : PS} {b : Int32} (hn : n ≤ 5000) (h : PP n m σ μ) (hb : bd b 0 255) : PP (n + 1) m (f_X6_put σ (σ.1 24) (σ.1 25) b (σ.1 29)) (upS (upS (upA (upA (upA (upA μ 4 (Int32.toNatClampNeg (4 * (μ.1 23))) (μ.2.1 0 0)) 4 (Int32.toNatClampNeg ((4 * (μ.1 23)) + 1)) (μ.2.1 0 1)) 4 (Int32.toNatClampNeg ((4 * (μ.1 23)) + 2)) b) 4 (Int32.toNatClampNeg ((4 * (μ.1 23)) + 3)) (μ.2.1 0 11)) 23 ((μ.1 23) + 1)) 24 ((μ.1 24) + 1)) := by
  obtain ⟨hl, ⟨⟨s1, s2, s3, s4⟩, s5, s6⟩, hd⟩ := h
  have hl2 := hl
  obtain ⟨⟨a1, a2, a3, a4, a5⟩, ⟨b0, b1, b2, b3, b4, b5, b6, b7, b8, b9, b10, b11, b12⟩, -, c0, c1, c2, c3, c4, c5, c6, c7, c8, c9, c10, c11, c12, c13, c14, c15, c16, c17⟩ := hl2
  have g1 := s5.1
  have g2 := s5.2
  have z1 : (1 : Int32).toInt = 1 := rfl
  have z2 : (2 : Int32).toInt = 2 := rfl
  have z3 : (3 : Int32).toInt = 3 := rfl
  have z4 : (4 : Int32).toInt = 4 := rfl
  have hc : ¬ (6000 : Int32) ≤ σ.1 31 := by
    rw [le32, s1]
    have : (6000 : Int32).toInt = 6000 := rfl
    omega
  obtain ⟨c, ec⟩ : ∃ c : Nat, (μ.1 23).toInt = (c : Int) := ⟨(μ.1 23).toInt.toNat, by omega⟩
  have e4 : (4 * μ.1 23).toInt = 4 * (c : Int) := by rw [i32mul (by rw [z4]; omega) (by rw [z4]; omega), z4, ec]
  have k0 : (4 * μ.1 23).toNatClampNeg = 4 * c := clampE (by rw [e4]; omega)
  have k1 : (4 * μ.1 23 + 1).toNatClampNeg = 4 * c + 1 := clampE (by rw [i32add (by omega) (by omega), e4, z1]; omega)
  have k2 : (4 * μ.1 23 + 2).toNatClampNeg = 4 * c + 2 := clampE (by rw [i32add (by omega) (by omega), e4, z2]; omega)
  have k3 : (4 * μ.1 23 + 3).toNatClampNeg = 4 * c + 3 := clampE (by rw [i32add (by omega) (by omega), e4, z3]; omega)
  have kc : (σ.1 31).toNatClampNeg = c := clampE (by rw [s1, ec])
  have ei : (μ.1 23 + 1).toInt = (c : Int) + 1 := by rw [i32add (by omega) (by omega), z1, ec]
  rw [k0, k1, k2, k3]
  unfold f_X6_put
  rw [if_neg hc, kc]
  refine ⟨hl, ⟨⟨?_, ?_, ?_, s4⟩, ?_, fun i hi => ?_⟩, hd⟩
  · show σ.1 31 + 1 = μ.1 23 + 1
    rw [s1]
  · show σ.1 32 + 1 = μ.1 23 + 1
    rw [s2]
  · show μ.1 24 + 1 = μ.1 23 + 1
    rw [s3]
  · show bd (μ.1 23 + 1) 0 (n + 1)
    unfold bd
    rw [ei]
    omega
  · replace hi : (i : Int) < (μ.1 23 + 1).toInt := hi
    rw [ei] at hi
    show vp_updL σ.2.2 c (pk (σ.1 24) (σ.1 25) b (σ.1 29)) i = pk (upd (upd (upd (upd (μ.2.1 4) (4 * c) (μ.2.1 0 0)) (4 * c + 1) (μ.2.1 0 1)) (4 * c + 2) b) (4 * c + 3) (μ.2.1 0 11) (4 * i)) (upd (upd (upd (upd (μ.2.1 4) (4 * c) (μ.2.1 0 0)) (4 * c + 1) (μ.2.1 0 1)) (4 * c + 2) b) (4 * c + 3) (μ.2.1 0 11) (4 * i + 1)) (upd (upd (upd (upd (μ.2.1 4) (4 * c) (μ.2.1 0 0)) (4 * c + 1) (μ.2.1 0 1)) (4 * c + 2) b) (4 * c + 3) (μ.2.1 0 11) (4 * i + 2)) (upd (upd (upd (upd (μ.2.1 4) (4 * c) (μ.2.1 0 0)) (4 * c + 1) (μ.2.1 0 1)) (4 * c + 2) b) (4 * c + 3) (μ.2.1 0 11) (4 * i + 3)) ∧ bd (upd (upd (upd (upd (μ.2.1 4) (4 * c) (μ.2.1 0 0)) (4 * c + 1) (μ.2.1 0 1)) (4 * c + 2) b) (4 * c + 3) (μ.2.1 0 11) (4 * i)) 0 131071 ∧ bd (upd (upd (upd (upd (μ.2.1 4) (4 * c) (μ.2.1 0 0)) (4 * c + 1) (μ.2.1 0 1)) (4 * c + 2) b) (4 * c + 3) (μ.2.1 0 11) (4 * i + 1)) 0 131071 ∧ bd (upd (upd (upd (upd (μ.2.1 4) (4 * c) (μ.2.1 0 0)) (4 * c + 1) (μ.2.1 0 1)) (4 * c + 2) b) (4 * c + 3) (μ.2.1 0 11) (4 * i + 2)) 0 255 ∧ bd (upd (upd (upd (upd (μ.2.1 4) (4 * c) (μ.2.1 0 0)) (4 * c + 1) (μ.2.1 0 1)) (4 * c + 2) b) (4 * c + 3) (μ.2.1 0 11) (4 * i + 3)) 0 1
    by_cases q : i = c
    · subst q
      have f0 : upd (upd (upd (upd (μ.2.1 4) (4 * i) (μ.2.1 0 0)) (4 * i + 1) (μ.2.1 0 1)) (4 * i + 2) b) (4 * i + 3) (μ.2.1 0 11) (4 * i) = σ.1 24 := by rw [upd_ne (by omega), upd_ne (by omega), upd_ne (by omega), upd_eq, b0]
      have f1 : upd (upd (upd (upd (μ.2.1 4) (4 * i) (μ.2.1 0 0)) (4 * i + 1) (μ.2.1 0 1)) (4 * i + 2) b) (4 * i + 3) (μ.2.1 0 11) (4 * i + 1) = σ.1 25 := by rw [upd_ne (by omega), upd_ne (by omega), upd_eq, b1]
      have f2 : upd (upd (upd (upd (μ.2.1 4) (4 * i) (μ.2.1 0 0)) (4 * i + 1) (μ.2.1 0 1)) (4 * i + 2) b) (4 * i + 3) (μ.2.1 0 11) (4 * i + 2) = b := by rw [upd_ne (by omega), upd_eq]
      have f3 : upd (upd (upd (upd (μ.2.1 4) (4 * i) (μ.2.1 0 0)) (4 * i + 1) (μ.2.1 0 1)) (4 * i + 2) b) (4 * i + 3) (μ.2.1 0 11) (4 * i + 3) = σ.1 29 := by rw [upd_eq, b11]
      rw [f0, f1, f2, f3, updL_eq]
      have := c3.2
      have := c4.2
      exact ⟨rfl, ⟨c11.1, by have := c11.2; omega⟩, ⟨c12.1, by have := c12.2; omega⟩, hb, c16⟩
    · rw [updL_ne q, upd_ne (by omega), upd_ne (by omega), upd_ne (by omega), upd_ne (by omega), upd_ne (by omega), upd_ne (by omega), upd_ne (by omega), upd_ne (by omega), upd_ne (by omega), upd_ne (by omega), upd_ne (by omega), upd_ne (by omega), upd_ne (by omega), upd_ne (by omega), upd_ne (by omega), upd_ne (by omega)]
      exact s6 i (by omega)
theorem sum64 {x s : Int32} (h1 : bd x 0 130000) (h2 : bd s 0 1966080) : (x + s).toInt64 = x.toInt64 + s.toInt64 := by
  obtain ⟨p1, p2⟩ := h1
  obtain ⟨p3, p4⟩ := h2
  apply i64ext
  rw [i64I, i32add (by omega) (by omega), i64add (by rw [i64I, i64I]; omega) (by rw [i64I, i64I]; omega), i64I, i64I]
theorem GL.xb {σ μ : PS} (h : GL σ μ) : bd (σ.1 24) 0 130000 := by
  obtain ⟨-, -, -, c0, c1, c2, c3, c4, c5, c6, c7, c8, c9, c10, c11, -⟩ := h
  have := c3.2
  exact ⟨c11.1, by have := c11.2; omega⟩
theorem PP.ch133 {n m : Int} {σ μ : PS} {s : Int32} (h : PP n m σ μ) (hs : bd s 0 1966080) : PP n m (g_X7_character_133 σ s) (g_X8_character_203 μ s) := by
  refine h.setX ?_
  have b0 : μ.2.1 0 0 = σ.1 24 := h.1.2.1.1
  rw [b0]
  exact (sum64 h.1.xb hs).symm
theorem PP.ch98 {n m : Int} {σ μ : PS} {b s : Int32} (hn : n ≤ 5000) (h : PP n m σ μ) (hb : bd b 0 255) (hs : bd s 0 1966080) : PP (n + 1) m (g_X7_character_98 σ b s) (g_X8_character_97 μ b s) := by
  unfold g_X7_character_98 g_X8_character_97
  try dsimp only
  refine ite2 (P := PP (n + 1) m) Iff.rfl (fun _ _ => (h.ch133 hs).wn) (fun _ _ => ?_)
  have hc : ¬ (6000 : Int32) ≤ μ.1 23 := by
    rw [le32]
    have : (6000 : Int32).toInt = 6000 := rfl
    have := h.2.1.2.1.2
    omega
  rw [if_neg hc]
  exact (h.put hn hb).ch133 hs
theorem PP.ch72 {n m : Int} {σ μ : PS} {b s : Int32} (hn : n ≤ 5000) (hm : m ≤ 1000000) (h : PP n m σ μ) (hb : bd b 0 255) (hs : bd s 0 1966080) : PP (n + 1) (m + 1) (g_X7_character_72 σ b s) (g_X8_character_71 μ b s) := by
  have b8 : μ.2.1 0 8 = σ.1 26 := h.1.2.1.2.2.2.2.2.2.2.2.1
  unfold g_X7_character_72 g_X8_character_71
  try dsimp only
  refine ite2 (P := PP (n + 1) (m + 1)) (by rw [b8]) (fun _ _ => h.w.wn) (fun _ _ => ?_)
  have h2 := h.ret
  have b7 : (f_X8_carriageReturn μ).2.1 0 7 = (f_X7_carriageReturn σ).1 23 := h2.1.2.1.2.2.2.2.2.2.2.1
  have c10 : bd ((f_X7_carriageReturn σ).1 23) 0 130000 := h2.1.2.2.2.2.2.2.2.2.2.2.2.2.2.1
  exact (h2.lineFeed hm b7 c10).ch98 hn hb hs
theorem PP.ch35 {n m : Int} {σ μ : PS} {b s : Int32} (hn : n ≤ 5000) (hm : m ≤ 1000000) (h : PP n m σ μ) (hb : bd b 0 255) (hs : bd s 0 1966080) : PP (n + 1) (m + 1) (g_X7_character_35 σ b s) (g_X8_character_34 μ b s) := by
  have b0 : μ.2.1 0 0 = σ.1 24 := h.1.2.1.1
  have b3 : μ.2.1 0 3 = σ.1 21 := h.1.2.1.2.2.2.1
  unfold g_X7_character_35 g_X8_character_34
  try dsimp only
  refine ite2 (P := PP (n + 1) (m + 1)) (by rw [b0, b3]) (fun _ _ => h.ch72 hn hm hb hs) (fun _ _ => ?_)
  refine ite2 (P := PP (n + 1) (m + 1)) ?_ (fun _ _ => (h.ch98 hn hb hs).w) (fun _ _ => h.ch72 hn hm hb hs)
  rw [b0, b3, ← sum64 h.1.xb hs, le32, le64, i64I, i64I]
theorem PP.character {n m : Int} {σ μ : PS} {b : Int32} (hn : n ≤ 5000) (hm : m ≤ 1000000) (h : PP n m σ μ) (ht : GT σ μ) (hb : bd b 0 255) : PP (n + 1) (m + 1) (f_X7_character σ b) (f_X8_character μ b) := by
  have b11 : μ.2.1 0 11 = σ.1 29 := h.1.2.1.2.2.2.2.2.2.2.2.2.2.2.1
  have b6 : μ.2.1 0 6 = σ.1 22 := h.1.2.1.2.2.2.2.2.2.1
  have c16 : bd (σ.1 29) 0 1 := h.1.2.2.2.2.2.2.2.2.2.2.2.2.2.2.2.2.2.2.2.1
  have c9 : bd (σ.1 22) 0 1966080 := h.1.2.2.2.2.2.2.2.2.2.2.2.2.1
  obtain ⟨p1, p2⟩ := c16
  obtain ⟨p3, p4⟩ := hb
  have z : (256 : Int32).toInt = 256 := rfl
  have ei : (256 * μ.2.1 0 11 + b) = (σ.1 29 * 256 + b) := by rw [b11, Int32.mul_comm]
  have em : (σ.1 29 * 256).toInt = (σ.1 29).toInt * 256 := by rw [i32mul (by rw [z]; omega) (by rw [z]; omega), z]
  have ea : (σ.1 29 * 256 + b).toInt = (σ.1 29).toInt * 256 + b.toInt := by rw [i32add (by omega) (by omega), em]
  have hi : (σ.1 29 * 256 + b).toNatClampNeg < 512 := by
    have := clampI (v := σ.1 29 * 256 + b) (by omega)
    omega
  obtain ⟨t1, t2⟩ := ht _ hi
  unfold f_X7_character f_X8_character
  try dsimp only
  rw [ei, ← t1]
  generalize σ.2.1 0 ((σ.1 29 * 256 + b).toNatClampNeg) = t at t2
  obtain ⟨t3, t4⟩ := t2
  have z0 : (0 : Int32).toInt = 0 := rfl
  have zm : (-1 : Int32).toInt = -1 := rfl
  by_cases q : t = -1
  · subst q
    rw [if_pos rfl, if_neg (by decide), b6]
    exact h.ch35 hn hm ⟨p3, p4⟩ c9
  · have : t.toInt ≠ -1 := fun w => q (i32ext w)
    rw [if_neg q, if_pos (by rw [le32]; omega)]
    exact h.ch35 hn hm ⟨p3, p4⟩ ⟨by omega, by omega⟩
theorem PP.tab {n m : Int} {σ μ : PS} (h : PP n m σ μ) : PP n m (f_X7_tab σ) (f_X8_tab μ) := by
  obtain ⟨⟨a1, a2, a3, a4, a5⟩, ⟨b0, b1, b2, b3, b4, b5, b6, b7, b8, b9, b10, b11, b12⟩, -, c0, c1, c2, c3, c4, c5, c6, c7, c8, c9, c10, c11, c12, c13, c14, c15, c16, c17⟩ := h.1
  unfold f_X7_tab f_X8_tab
  try dsimp only
  rw [b0, b2, b3, b6]
  have z0 : (0 : Int32).toInt = 0 := rfl
  have y0 : (0 : Int64).toInt = 0 := rfl
  have y1 : (1 : Int64).toInt = 1 := rfl
  have y8 : (8 : Int64).toInt = 8 := rfl
  have q1 := c7.1
  have q2 := c7.2
  have q3 := c3.2
  have q4 := c9.1
  have q5 := c9.2
  have q6 := c11.1
  have q7 := c11.2
  have q8 := c8.1
  have q9 := c8.2
  have ew : (8 * (σ.1 22).toInt64).toInt = 8 * (σ.1 22).toInt := by rw [i64mul (by rw [i64I, y8]; omega) (by rw [i64I, y8]; omega), i64I, y8]
  refine ite2 (P := PP n m) Iff.rfl (fun hc _ => ?_) (fun hc _ => ?_)
  · rw [le32] at hc
    refine ite2 (P := PP n m) ?_ (fun _ _ => h) (fun hd _ => ?_)
    · rw [le64, le32, ew, y0, z0]; omega
    · rw [le64, ew, y0] at hd
      have ed : ((σ.1 24) - (σ.1 20)).toInt64.toInt = (σ.1 24).toInt - (σ.1 20).toInt := by rw [i64I, i32sub (by omega) (by omega)]
      have eq : (((σ.1 24) - (σ.1 20)).toInt64 / (8 * (σ.1 22).toInt64)).toInt = ((σ.1 24).toInt - (σ.1 20).toInt) / (8 * (σ.1 22).toInt) := by rw [i64div (by omega) (by omega), ed, ew]
      have r1 := Int.ediv_mul_le ((σ.1 24).toInt - (σ.1 20).toInt) (b := 8 * (σ.1 22).toInt) (by omega)
      have r2 := Int.ediv_nonneg (a := (σ.1 24).toInt - (σ.1 20).toInt) (b := 8 * (σ.1 22).toInt) (by omega) (by omega)
      have r3 := Int.ediv_le_self (8 * (σ.1 22).toInt) (a := (σ.1 24).toInt - (σ.1 20).toInt) (by omega)
      have r4 := Int.mul_nonneg r2 (show 0 ≤ 8 * (σ.1 22).toInt by omega)
      generalize ((σ.1 24).toInt - (σ.1 20).toInt) / (8 * (σ.1 22).toInt) = Q at eq r1 r2 r3 r4
      have e5 : (((σ.1 24) - (σ.1 20)).toInt64 / (8 * (σ.1 22).toInt64) + 1).toInt = Q + 1 := by rw [i64add (by omega) (by omega), eq, y1]
      have e6 : (Q + 1) * (8 * (σ.1 22).toInt) = Q * (8 * (σ.1 22).toInt) + 8 * (σ.1 22).toInt := by rw [Int.add_mul, Int.one_mul]
      have e7 : ((((σ.1 24) - (σ.1 20)).toInt64 / (8 * (σ.1 22).toInt64) + 1) * (8 * (σ.1 22).toInt64)).toInt = Q * (8 * (σ.1 22).toInt) + 8 * (σ.1 22).toInt := by
        rw [i64mul (by rw [e5, ew, e6]; omega) (by rw [e5, ew, e6]; omega), e5, ew, e6]
      rw [Int64.mul_comm (8 * (σ.1 22).toInt64)]
      have e8 : ((σ.1 20).toInt64 + (((σ.1 24) - (σ.1 20)).toInt64 / (8 * (σ.1 22).toInt64) + 1) * (8 * (σ.1 22).toInt64)).toInt = (σ.1 20).toInt + (Q * (8 * (σ.1 22).toInt) + 8 * (σ.1 22).toInt) := by rw [i64add (by rw [i64I, e7]; omega) (by rw [i64I, e7]; omega), i64I, e7]
      generalize ((σ.1 20).toInt64 + (((σ.1 24) - (σ.1 20)).toInt64 / (8 * (σ.1 22).toInt64) + 1) * (8 * (σ.1 22).toInt64)) = N at e8
      generalize Q * (8 * (σ.1 22).toInt) = Z at e8 r1 r4
      rw [win_eq]
      refine iteL (P := fun z => PP n m _ z) (fun hz => h.setX ?_) (fun hz => h.setX ?_)
      · rw [le64, i64I] at hz
        apply i64ext
        rw [i64I, i64I, win_I (by omega), if_pos (by omega)]
        split <;> omega
      · rw [le64, i64I] at hz
        apply i64ext
        rw [i64I, win_I (by omega), if_pos (by omega), if_pos (by omega)]
  · refine ⟨h.1.sX ?_ c7, h.2⟩
    rw [a4]
    exact win_id c7
theorem PP.backspace {n m : Int} {σ μ : PS} (h : PP n m σ μ) : PP n m (f_X7_backspace σ) (if (μ.2.1 0 0) < (μ.2.1 0 2) then (g_X8_control_48 μ 0) else (g_X8_control_48 μ (μ.2.1 0 2))) := by
  obtain ⟨⟨a1, a2, a3, a4, a5⟩, ⟨b0, b1, b2, b3, b4, b5, b6, b7, b8, b9, b10, b11, b12⟩, -, c0, c1, c2, c3, c4, c5, c6, c7, c8, c9, c10, c11, c12, c13, c14, c15, c16, c17⟩ := h.1
  have z0 : (0 : Int32).toInt = 0 := rfl
  have q1 := c7.1
  have q2 := c7.2
  have q3 := c3.2
  have q4 := c9.1
  have q5 := c9.2
  have q6 := c11.1
  have q7 := c11.2
  have key : ∀ k : Int32, bd k 0 (σ.1 16).toInt → PP n m (g_X7_backspace_28 σ k) (g_X8_control_48 μ k) := by
    intro k hk
    obtain ⟨k1, k2⟩ := hk
    unfold g_X7_backspace_28 g_X8_control_48
    try dsimp only
    rw [b0, b6]
    have e1 : ((σ.1 24).toInt64 - (σ.1 22).toInt64).toInt = (σ.1 24).toInt - (σ.1 22).toInt := by rw [i64sub (by rw [i64I, i64I]; omega) (by rw [i64I, i64I]; omega), i64I, i64I]
    generalize (σ.1 24).toInt64 - (σ.1 22).toInt64 = N at e1
    refine iteL (P := fun z => PP n m _ z) (fun hz => h.setX ?_) (fun hz => h.setX ?_)
    · unfold f_X7_within
      rw [if_pos hz]
      rw [le64, i64I] at hz
      rw [if_pos (by rw [le64, i64I]; omega)]
      apply i64ext
      rw [i64I, tI32 (by omega) (by omega)]
    · unfold f_X7_within
      rw [if_neg hz]
  unfold f_X7_backspace
  rw [b0, b2]
  by_cases hc : σ.1 20 ≤ σ.1 24
  · rw [if_pos hc, if_neg (by rw [le32] at hc; rw [lt32]; omega)]
    exact key _ c7
  · rw [if_neg hc, if_pos (by rw [le32] at hc; rw [lt32]; omega)]
    exact key _ ⟨by decide, by rw [z0]; omega⟩
theorem PP.retIf {n m : Int} {σ μ : PS} (h : PP n m σ μ) : (σ.1 28 < 2 ↔ μ.2.1 0 10 ≤ 1) := by
  have b10 : μ.2.1 0 10 = σ.1 28 := h.1.2.1.2.2.2.2.2.2.2.2.2.2.1
  have z1 : (1 : Int32).toInt = 1 := rfl
  have z2 : (2 : Int32).toInt = 2 := rfl
  rw [b10, lt32, le32]
  omega
theorem PP.lfV {n m : Int} {σ μ : PS} (hm : m ≤ 1000000) (h : PP n m σ μ) : PP n (m + 1) (f_X7_lineFeed σ (σ.1 23)) (f_X8_lineFeed μ (μ.2.1 0 7)) :=
  h.lineFeed hm h.1.2.1.2.2.2.2.2.2.2.1 h.1.2.2.2.2.2.2.2.2.2.2.2.2.2.1
theorem PP.cr13 {n m : Int} {σ μ : PS} (hm : m ≤ 1000000) (h : PP n m σ μ) : PP n (m + 1) (f_X7_returnWithLineEnd σ) (if (((f_X8_carriageReturn μ).2.1 0 10) - ((f_X8_carriageReturn μ).2.1 0 10) / 2 * 2) = 1 then f_X8_lineFeed (f_X8_carriageReturn μ) ((f_X8_carriageReturn μ).2.1 0 7) else (f_X8_carriageReturn μ)) := by
  have h2 := h.ret
  have b10 : (f_X8_carriageReturn μ).2.1 0 10 = (f_X7_carriageReturn σ).1 28 := h2.1.2.1.2.2.2.2.2.2.2.2.2.2.1
  have c15 : bd ((f_X7_carriageReturn σ).1 28) 0 3 := h2.1.2.2.2.2.2.2.2.2.2.2.2.2.2.2.2.2.2.2.1
  unfold f_X7_returnWithLineEnd g_X7_returnWithLineEnd_26
  try dsimp only
  rw [b10]
  generalize f_X7_carriageReturn σ = τ at h2 c15
  generalize f_X8_carriageReturn μ = ν at h2
  have z1 : (1 : Int32).toInt = 1 := rfl
  have z3 : (3 : Int32).toInt = 3 := rfl
  have z2 : (2 : Int32).toInt = 2 := rfl
  have er : (τ.1 28 - τ.1 28 / 2 * 2).toInt = (τ.1 28).toInt % 2 := by rw [rem32 c15.1, z2]
  have q1 := c15.1
  have q2 := c15.2
  by_cases e1 : τ.1 28 = 1
  · rw [if_pos e1, if_pos (by rw [eq32, er, e1]; rfl)]
    exact h2.lfV hm
  · by_cases e3 : τ.1 28 = 3
    · rw [if_neg e1, if_pos e3, if_pos (by rw [eq32, er, e3]; rfl)]
      exact h2.lfV hm
    · rw [if_neg e1, if_neg e3, if_neg (by rw [eq32, er, z1]; rw [eq32] at e1 e3; omega)]
      exact h2.w
theorem PP.control {n m : Int} {σ μ : PS} {b : Int32} (hm : m ≤ 1000000) (h : PP n m σ μ) : PP n (m + 1) (f_X7_controlCode σ b) (f_X8_control μ b) := by
  have hb := h.backspace.w
  have ht := h.tab.w
  have h13 := h.cr13 hm
  have hr := h.retIf
  have f14 : PP n (m + 1) (upS σ 29 1) (upA μ 0 11 1) := PP.w ⟨h.1.sFont rfl ⟨by decide, by decide⟩, h.2⟩
  have f15 : PP n (m + 1) (upS σ 29 0) (upA μ 0 11 0) := PP.w ⟨h.1.sFont rfl ⟨by decide, by decide⟩, h.2⟩
  have h10 : PP n (m + 1) (f_X7_lineFeed (f_X7_returnIfLineEndsSo σ) ((f_X7_returnIfLineEndsSo σ).1 23)) (g_X8_control_114 μ 10 (if μ.2.1 0 10 ≤ 1 then 0 else 1)) := by
    unfold f_X7_returnIfLineEndsSo g_X8_control_114 g_X8_control_122
    try dsimp only
    rw [if_pos rfl, if_pos rfl]
    by_cases hc : σ.1 28 < 2
    · rw [if_pos hc, if_pos (hr.mp hc), if_pos rfl]
      exact h.lfV hm
    · rw [if_neg hc, if_neg (fun q => hc (hr.mpr q)), if_neg (by decide)]
      exact h.ret.lfV hm
  have h12 : PP n (m + 1) (f_X7_eject (f_X7_returnIfLineEndsSo σ)) (g_X8_control_114 μ 12 (if μ.2.1 0 10 ≤ 1 then 0 else 1)) := by
    unfold f_X7_returnIfLineEndsSo g_X8_control_114 g_X8_control_122
    try dsimp only
    rw [if_neg (show ¬ (12 : Int32) = 10 by decide), if_neg (show ¬ (12 : Int32) = 10 by decide)]
    by_cases hc : σ.1 28 < 2
    · rw [if_pos hc, if_pos (hr.mp hc), if_pos rfl]
      exact h.eject hm
    · rw [if_neg hc, if_neg (fun q => hc (hr.mpr q)), if_neg (by decide)]
      exact h.ret.eject hm
  have key : f_X8_control μ b = (if b = 8 then (if (μ.2.1 0 0) < (μ.2.1 0 2) then (g_X8_control_48 μ 0) else (g_X8_control_48 μ (μ.2.1 0 2))) else (if b = 9 then f_X8_tab μ else (if b = 10 then (g_X8_control_114 μ b (if μ.2.1 0 10 ≤ 1 then 0 else 1)) else (if b = 12 then (g_X8_control_114 μ b (if μ.2.1 0 10 ≤ 1 then 0 else 1)) else (if b = 13 then (if (((f_X8_carriageReturn μ).2.1 0 10) - ((f_X8_carriageReturn μ).2.1 0 10) / 2 * 2) = 1 then f_X8_lineFeed (f_X8_carriageReturn μ) ((f_X8_carriageReturn μ).2.1 0 7) else (f_X8_carriageReturn μ)) else (if b = 14 then (upA μ 0 11 (15 - b)) else (if b = 15 then (upA μ 0 11 (15 - b)) else μ))))))) := by
    unfold f_X8_control
    try dsimp only
    by_cases hc : μ.2.1 0 10 ≤ 1
    · rw [if_pos hc, if_pos hc]
    · rw [if_neg hc, if_neg hc]
  rw [key]
  unfold f_X7_controlCode
  try dsimp only
  refine ite2 (P := PP n (m + 1)) Iff.rfl (fun _ _ => hb) (fun n8 _ => ?_)
  refine ite2 (P := PP n (m + 1)) Iff.rfl (fun _ _ => ht) (fun n9 _ => ?_)
  refine ite2 (P := PP n (m + 1)) Iff.rfl (fun e _ => by subst e; exact h10) (fun n10 _ => ?_)
  by_cases e : b = 11
  · subst e
    rw [if_pos rfl, if_neg (by decide), if_neg (by decide), if_neg (by decide), if_neg (by decide)]
    exact h.w
  rw [if_neg e]
  refine ite2 (P := PP n (m + 1)) Iff.rfl (fun e _ => by subst e; exact h12) (fun n10 _ => ?_)
  refine ite2 (P := PP n (m + 1)) Iff.rfl (fun _ _ => h13) (fun n13 _ => ?_)
  refine ite2 (P := PP n (m + 1)) Iff.rfl (fun e _ => by subst e; exact f14) (fun n10 _ => ?_)
  refine ite2 (P := PP n (m + 1)) Iff.rfl (fun e _ => by subst e; exact f15) (fun n10 _ => ?_)
  exact h.w
