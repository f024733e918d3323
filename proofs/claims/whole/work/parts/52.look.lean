/-! the pure relation, part 13: look -/
theorem bool01 {v : Int32} (h : bd v 0 1) : (if v = 0 then (0 : Int32) else 1) = v := by
  obtain ⟨h1, h2⟩ := h
  have z0 : (0 : Int32).toInt = 0 := rfl
  have z1 : (1 : Int32).toInt = 1 := rfl
  by_cases q : v = 0
  · rw [if_pos q, q]
  · rw [if_neg q]
    rw [eq32] at q
    exact i32ext (by omega)
theorem Rel.lookE {n : Int} {σ μ : PS} {x : Int32} (h : Rel n σ μ) : f_X7_look σ x = (f_X8_look μ x).2 := by
  obtain ⟨⟨⟨⟨⟨a1, a2, a3, a4, a5⟩, ⟨b0, b1, b2, b3, b4, b5, b6, b7, b8, b9, b10, b11, b12⟩, -, c0, c1, c2, c3, c4, c5, c6, c7, c8, c9, c10, c11, c12, c13, c14, c15, c16, c17⟩, ⟨⟨s1, s2, s3, s4⟩, s5, s6⟩, hd⟩, ht, hk, hq, hb⟩, hp⟩ := h
  have z0 : (0 : Int32).toInt = 0 := rfl
  by_cases q0 : x = 0
  · subst q0; exact b0.symm
  by_cases q1 : x = 1
  · subst q1; exact b1.symm
  by_cases q2 : x = 2
  · subst q2; exact b2.symm
  by_cases q3 : x = 3
  · subst q3; exact b3.symm
  by_cases q4 : x = 4
  · subst q4; exact b4.symm
  by_cases q5 : x = 5
  · subst q5; exact b5.symm
  by_cases q6 : x = 6
  · subst q6; exact b6.symm
  by_cases q7 : x = 7
  · subst q7; exact b7.symm
  by_cases q8 : x = 8
  · subst q8; exact a4.symm
  by_cases q9 : x = 9
  · subst q9; exact a5.symm
  by_cases q10 : x = 10
  · subst q10; exact a1.symm
  by_cases q11 : x = 11
  · subst q11; exact a2.symm
  by_cases q12 : x = 12
  · subst q12
    show (if σ.1 26 = 0 then (0 : Int32) else 1) = μ.2.1 0 8
    rw [b8]; exact bool01 c13
  by_cases q13 : x = 13
  · subst q13
    show (if σ.1 27 = 0 then (0 : Int32) else 1) = μ.2.1 0 9
    rw [b9]; exact bool01 c14
  by_cases q14 : x = 14
  · subst q14; exact b10.symm
  by_cases q15 : x = 15
  · subst q15; exact a3.symm
  by_cases q16 : x = 16
  · subst q16; exact b11.symm
  by_cases q17 : x = 17
  · subst q17; exact b12.symm
  by_cases q18 : x = 18
  · subst q18; exact s1
  by_cases q19 : x = 19
  · subst q19
    show (if (if σ.1 32 ≤ σ.1 31 then (0 : Int32) else 1) = 0 then (0 : Int32) else 1) = (if μ.1 24 ≤ μ.1 23 then ((upS μ 0 0, 0) : PS × Int32) else (upS μ 0 0, 1)).2
    rw [s1, s2, s3, if_pos (show μ.1 23 ≤ μ.1 23 by rw [le32]; omega), if_pos (show μ.1 23 ≤ μ.1 23 by rw [le32]; omega), if_pos rfl]
  by_cases q20 : x = 20
  · subst q20; exact hd.1
  by_cases q21 : x = 21
  · subst q21; obtain ⟨c, f, s, t, -, ⟨m1, m2⟩, -⟩ := hq; exact m1.symm
  by_cases q22 : x = 22
  · subst q22; exact hb.symm
  by_cases q23 : x = 23
  · subst q23
    show (if (if σ.1 6 = 0 then (if σ.1 5 ≤ 0 then (0 : Int32) else 1) else 1) = 0 then (0 : Int32) else 1) = (if μ.1 10 ≤ 0 then ((upS μ 0 0, 0) : PS × Int32) else (upS μ 0 0, 1)).2
    obtain ⟨-, ⟨g1, g2, g3⟩, g4, g5, -⟩ := hp
    obtain ⟨g2, g2'⟩ := g2
    obtain ⟨g3, g3'⟩ := g3
    by_cases e : σ.1 5 = 0
    · rw [g4 e]
      rw [if_pos (show σ.1 5 ≤ 0 by rw [le32, e]; decide)]
      by_cases e2 : σ.1 6 = 0
      · rw [if_pos e2, if_pos rfl, if_pos (show σ.1 6 ≤ 0 by rw [le32, e2]; decide)]
      · rw [if_neg e2, if_neg one_ne, if_neg (show ¬ σ.1 6 ≤ 0 by rw [le32]; rw [eq32] at e2; omega)]
    · rw [(g5 e).1, if_neg (show ¬ σ.1 5 ≤ 0 by rw [le32]; rw [eq32] at e; omega), if_neg (show ¬ (4 : Int32) ≤ 0 by decide)]
      by_cases e2 : σ.1 6 = 0
      · rw [if_pos e2, if_neg one_ne]
      · rw [if_neg e2, if_neg one_ne]
  by_cases q24 : x = 24
  · subst q24
    show (if (if σ.1 33 = 0 then (if σ.1 31 ≤ 0 then (0 : Int32) else 1) else 1) = 0 then (0 : Int32) else 1) = (if 0 < μ.1 24 then ((upS μ 0 0, 1) : PS × Int32) else (if μ.1 25 = 0 then (upS μ 0 0, 0) else (upS μ 0 0, 1))).2
    rw [s1, s3, s4]
    by_cases e : μ.1 25 = 0
    · rw [if_pos e, if_pos e]
      by_cases e2 : μ.1 23 ≤ 0
      · rw [if_pos e2, if_pos rfl, if_neg (show ¬ 0 < μ.1 23 by rw [le32] at e2; rw [lt32]; omega)]
      · rw [if_neg e2, if_neg one_ne, if_pos (show 0 < μ.1 23 by rw [le32] at e2; rw [lt32]; omega)]
    · rw [if_neg e, if_neg e, if_neg one_ne]
      by_cases e2 : 0 < μ.1 23
      · rw [if_pos e2]
      · rw [if_neg e2]
  have e7 : f_X7_look σ x = -1 := by
    unfold f_X7_look
    rw [if_neg q0, if_neg q1, if_neg q2, if_neg q3, if_neg q4, if_neg q5, if_neg q6, if_neg q7, if_neg q8, if_neg q9, if_neg q10, if_neg q11, if_neg q12, if_neg q13, if_neg q14, if_neg q15, if_neg q16, if_neg q17, if_neg q18, if_neg q19, if_neg q20, if_neg q21, if_neg q22, if_neg q23, if_neg q24]
  have e8 : ∀ τ : PS, g_X8_look_22 τ x = (τ, -1) := fun τ => by
    unfold g_X8_look_22
    rw [if_neg q8, if_neg q9, if_neg q10, if_neg q11, if_neg q12, if_neg q13, if_neg q14, if_neg q15, if_neg q16, if_neg q17, if_neg q18, if_neg q19, if_neg q20, if_neg q21, if_neg q22, if_neg q23, if_neg q24]
  rw [e7]
  unfold f_X8_look
  by_cases k1 : x < 0
  · rw [if_pos k1, e8]
  rw [if_neg k1]
  by_cases k2 : 8 ≤ x
  · rw [if_pos k2, e8]
  exfalso
  have y1 : (1 : Int32).toInt = 1 := rfl
  have y2 : (2 : Int32).toInt = 2 := rfl
  have y3 : (3 : Int32).toInt = 3 := rfl
  have y4 : (4 : Int32).toInt = 4 := rfl
  have y5 : (5 : Int32).toInt = 5 := rfl
  have y6 : (6 : Int32).toInt = 6 := rfl
  have y7 : (7 : Int32).toInt = 7 := rfl
  have y8 : (8 : Int32).toInt = 8 := rfl
  rw [lt32] at k1
  rw [le32] at k2
  rw [eq32] at q0 q1 q2 q3 q4 q5 q6 q7
  omega
theorem look8 {τ : PS} {x : Int32} : (g_X8_look_22 τ x).1 = τ := by
  have I : ∀ {c : Prop} [Decidable c] {a b : PS × Int32}, a.1 = τ → b.1 = τ → (if c then a else b).1 = τ := fun h1 h2 => by
    split
    · exact h1
    · exact h2
  unfold g_X8_look_22
  repeat' first | (with_reducible refine I ?_ ?_) | rfl
theorem Rel.look {n : Int} {σ μ : PS} {x : Int32} (h : Rel n σ μ) : f_X7_look σ x = (f_X8_look μ x).2 ∧ Rel n σ (f_X8_look μ x).1 := by
  refine ⟨h.lookE, ?_⟩
  have e : (f_X8_look μ x).1 = upS μ 0 0 := by
    unfold f_X8_look
    split
    · exact look8
    · split
      · exact look8
      · rfl
  rw [e]
  exact h
