/-! the pure relation, part 4: paper, defaults, reset, short sequences -/
def sht (s : Int32) : Int32 := if s = 1 then 52200 else (if s = 6 then 79200 else (if s = 26 then 59528 else 61200))
def lng (s : Int32) : Int32 := if s = 1 then 75600 else (if s = 3 then 100800 else (if s = 6 then 122400 else (if s = 26 then 84189 else 79200)))
def wdt (s o : Int32) : Int32 := if o = 1 then lng s - 2880 else (if o = 3 then lng s - 2880 else sht s - 3600)
def htt (s o : Int32) : Int32 := if o = 1 then sht s else (if o = 3 then sht s else lng s)
def szOk (s : Int32) : Prop := s = 1 ∨ s = 2 ∨ s = 3 ∨ s = 6 ∨ s = 26
theorem o03 {o : Int32} (h : bd o 0 3) : o = 0 ∨ o = 1 ∨ o = 2 ∨ o = 3 := by
  obtain ⟨h1, h2⟩ := h
  have z0 : (0 : Int32).toInt = 0 := rfl
  have z1 : (1 : Int32).toInt = 1 := rfl
  have z2 : (2 : Int32).toInt = 2 := rfl
  have z3 : (3 : Int32).toInt = 3 := rfl
  simp only [eq32]
  omega
theorem wdt_b {s o : Int32} (hs : szOk s) (ho : bd o 0 3) : bd (wdt s o) 10000 130000 ∧ bd (htt s o) 10000 130000 := by
  rcases hs with rfl | rfl | rfl | rfl | rfl <;> rcases o03 ho with rfl | rfl | rfl | rfl <;> exact ⟨⟨by decide, by decide⟩, ⟨by decide, by decide⟩⟩
theorem chooseE (σ : PS) (s o : Int32) : f_X4_choose σ s o = upS (upS (upS (upS σ 13 s) 14 o) 16 (wdt s o)) 17 (htt s o) := by
  unfold f_X4_choose wdt htt
  by_cases h1 : o = 1
  · rw [if_pos h1, if_pos h1, if_pos h1]; rfl
  · rw [if_neg h1, if_neg h1, if_neg h1]
    by_cases h3 : o = 3
    · rw [if_pos h3, if_pos h3, if_pos h3]; rfl
    · rw [if_neg h3, if_neg h3, if_neg h3]; rfl
theorem acrE {s : Int32} (hs : szOk s) : f_X8_across s = sht s := by rcases hs with rfl | rfl | rfl | rfl | rfl <;> decide
theorem dwnE {s : Int32} (hs : szOk s) : f_X8_down s = lng s := by rcases hs with rfl | rfl | rfl | rfl | rfl <;> decide
theorem measE {μ : PS} {s o : Int32} (es : μ.1 4 = s) (eo : μ.1 5 = o) (hs : szOk s) (ho : bd o 0 3) : f_X8_measure μ = upS (upS μ 7 (wdt s o)) 8 (htt s o) := by
  unfold f_X8_measure g_X8_measure_15 g_X8_measure_46 wdt htt
  rw [es, eo, acrE hs, dwnE hs]
  rcases o03 ho with rfl | rfl | rfl | rfl
  · rfl
  · rfl
  · rfl
  · rfl
/-- what is left of the layout's relation while the paper changes -/
def GW (σ μ : PS) : Prop := (σ.1 16 = wdt (σ.1 13) (σ.1 14) ∧ σ.1 17 = htt (σ.1 13) (σ.1 14)) ∧ (μ.1 4 = σ.1 13 ∧ μ.1 5 = σ.1 14 ∧ μ.1 6 = σ.1 15) ∧ (μ.2.1 0 6 = σ.1 22 ∧ μ.2.1 0 7 = σ.1 23 ∧ μ.2.1 0 8 = σ.1 26 ∧ μ.2.1 0 9 = σ.1 27 ∧ μ.2.1 0 10 = σ.1 28 ∧ μ.2.1 0 11 = σ.1 29 ∧ μ.2.1 0 12 = σ.1 30) ∧ (∀ i : Nat, (i : Int) < (σ.1 30).toInt → μ.2.1 0 (13 + 2 * i) = σ.2.1 1 i ∧ μ.2.1 0 (14 + 2 * i) = σ.2.1 2 i) ∧ szOk (σ.1 13) ∧ bd (σ.1 14) 0 3 ∧ bd (σ.1 15) 1 99 ∧ bd (σ.1 22) 0 1966080 ∧ bd (σ.1 23) 0 130000 ∧ bd (σ.1 26) 0 1 ∧ bd (σ.1 27) 0 1 ∧ bd (σ.1 28) 0 3 ∧ bd (σ.1 29) 0 1 ∧ bd (σ.1 30) 0 20
theorem win0 {m : Int32} (h : 0 ≤ m.toInt) : f_X8_within 0 m = 0 := by
  apply i32ext
  have y0 : (0 : Int64).toInt = 0 := rfl
  have z0 : (0 : Int32).toInt = 0 := rfl
  rw [win_I h, y0, z0, if_pos (by omega), if_pos h]
theorem GW.defaults {σ μ : PS} (h : GW σ μ) : GL (f_X7_setDefaults σ) (f_X8_defaults μ) := by
  obtain ⟨⟨w1, w2⟩, ⟨a1, a2, a3⟩, ⟨b6, b7, b8, b9, b10, b11, b12⟩, hs, c0, c1, c2, c9, c10, c13, c14, c15, c16, c17⟩ := h
  have hb := wdt_b c0 c1
  have em := measE a1 a2 c0 c1
  rw [← w1, ← w2] at em hb
  obtain ⟨⟨p1, p2⟩, ⟨p3, p4⟩⟩ := hb
  unfold f_X7_setDefaults f_X8_defaults
  try dsimp only
  rw [em]
  have z0 : (0 : Int32).toInt = 0 := rfl
  have z7 : (7200 : Int32).toInt = 7200 := rfl
  have hl : bd (σ.1 17 - 7200) 0 130000 := by
    unfold bd
    rw [i32sub (by omega) (by omega), z7]
    omega
  have hst : ∀ (v1 v2 v3 v4 v5 v6 : Int32), ∀ i : Nat, (i : Int) < (σ.1 30).toInt → upd (upd (upd (upd (upd (upd (μ.2.1 0) 4 v1) 5 v2) 2 v3) 3 v4) 0 v5) 1 v6 (13 + 2 * i) = σ.2.1 1 i ∧ upd (upd (upd (upd (upd (upd (μ.2.1 0) 4 v1) 5 v2) 2 v3) 3 v4) 0 v5) 1 v6 (14 + 2 * i) = σ.2.1 2 i := fun v1 v2 v3 v4 v5 v6 => stk_up (by decide) (stk_up (by decide) (stk_up (by decide) (stk_up (by decide) (stk_up (by decide) (stk_up (by decide) hs)))))
  refine ⟨⟨a1, a2, a3, rfl, rfl⟩, ⟨?_, ?_, rfl, rfl, rfl, rfl, b6, b7, b8, b9, b10, b11, b12⟩, hst _ _ _ _ _ _, c0, c1, c2, ⟨p1, p2⟩, ⟨p3, p4⟩, (show bd 3600 0 130000 from ⟨by decide, by decide⟩), hl, ⟨Int.le_refl 0, ?_⟩, ⟨?_, Int.le_refl _⟩, c9, c10, ⟨Int.le_refl 0, ?_⟩, ?_, c13, c14, c15, c16, c17⟩
  · exact win0 (by show 0 ≤ (σ.1 16).toInt; omega)
  · show f_X8_within ((3600 + μ.2.1 0 7 * 3 / 4).toInt64) (σ.1 17) = f_X7_within ((3600 + σ.1 23 * 3 / 4).toInt64) 0 (σ.1 17)
    rw [win_eq, b7]
  · show (0 : Int) ≤ (σ.1 16).toInt
    omega
  · show 0 ≤ (σ.1 16).toInt
    omega
  · show (0 : Int) ≤ (σ.1 16).toInt
    omega
  · show bd (f_X7_within ((3600 + σ.1 23 * 3 / 4).toInt64) 0 (σ.1 17)) 0 (σ.1 17).toInt
    rw [win_eq]
    exact win_bd (by omega)
/-- the paper changes -/
theorem GL.paper {σ μ : PS} {s o : Int32} (h : GL σ μ) (hs : szOk s) (ho : bd o 0 3) : GW (f_X4_choose σ s o) (upS (upS μ 4 s) 5 o) := by
  obtain ⟨⟨a1, a2, a3, a4, a5⟩, ⟨b0, b1, b2, b3, b4, b5, b6, b7, b8, b9, b10, b11, b12⟩, hst, c0, c1, c2, c3, c4, c5, c6, c7, c8, c9, c10, c11, c12, c13, c14, c15, c16, c17⟩ := h
  rw [chooseE]
  exact ⟨⟨rfl, rfl⟩, ⟨rfl, rfl, a3⟩, ⟨b6, b7, b8, b9, b10, b11, b12⟩, hst, hs, ho, c2, c9, c10, c13, c14, c15, c16, c17⟩
theorem upS_same {σ : PS} {k : Nat} {v : Int32} (h : σ.1 k = v) : upS σ k v = σ := by
  subst h
  unfold upS
  refine Prod.ext ?_ rfl
  funext j
  show va_up σ.1 k (σ.1 k) j = σ.1 j
  unfold va_up
  split
  · rename_i q; rw [q]
  · rfl
theorem PP.size {n m : Int} {σ μ : PS} {s : Int32} (h : PP n m σ μ) (hs : szOk s) : PP n m (g_X7_changePaper_14 σ s (σ.1 14)) (f_X8_defaults (upS μ 4 s)) := by
  have hg := (h.1.paper hs h.1.2.2.2.2.1 : GW (f_X4_choose σ s (σ.1 14)) (upS (upS μ 4 s) 5 (σ.1 14)))
  rw [upS_same (σ := upS μ 4 s) (k := 5) h.1.1.2.1] at hg
  have em := measE (μ := upS μ 4 s) rfl (show (upS μ 4 s).1 5 = σ.1 14 from h.1.1.2.1) hs h.1.2.2.2.2.1
  refine ⟨hg.defaults, ?_⟩
  unfold g_X7_changePaper_14 f_X8_defaults
  try dsimp only
  rw [chooseE, em]
  exact h.2
theorem PP.orient {n m : Int} {σ μ : PS} {o : Int32} (h : PP n m σ μ) (ho : bd o 0 3) : PP n m (g_X7_changePaper_14 σ (σ.1 13) o) (f_X8_defaults (upS μ 5 o)) := by
  have hs : szOk (σ.1 13) := h.1.2.2.2.1
  have hg := (h.1.paper hs ho : GW (f_X4_choose σ (σ.1 13) o) (upS (upS μ 4 (σ.1 13)) 5 o))
  rw [upS_same (σ := μ) (k := 4) h.1.1.1] at hg
  have em := measE (μ := upS μ 5 o) (show (upS μ 5 o).1 4 = σ.1 13 from h.1.1.1) rfl hs ho
  refine ⟨hg.defaults, ?_⟩
  unfold g_X7_changePaper_14 f_X8_defaults
  try dsimp only
  rw [chooseE, em]
  exact h.2
theorem rs_step {y : Int32} {N : Nat} (h0 : 0 ≤ y.toInt) (h1 : y.toInt ≤ (N : Int)) (hN : N < 1000000) : (y + 1).toInt = y.toInt + 1 := by
  have e1 : (1 : Int32).toInt = 1 := rfl
  rw [i32add (by omega) (by omega), e1]
theorem resetL : ∀ (n : Nat) (τ : PS) (y : Int32) (k : Nat), y.toInt = (k : Int) → k ≤ 53 → 53 < n + k → ∃ ρ : PS, g_X8_reset_2 n τ y = f_X8_defaults (upA (upA (upS (upS (upS ρ 4 2) 5 0) 6 1) 0 6 720) 0 7 1200) ∧ ρ.1 = τ.1 ∧ ρ.2.2 = τ.2.2 ∧ (∀ j : Nat, j ≠ 0 → ρ.2.1 j = τ.2.1 j) ∧ (∀ i : Nat, i < k → ρ.2.1 0 i = τ.2.1 0 i) ∧ (∀ i : Nat, k ≤ i → i < 53 → ρ.2.1 0 i = 0)
  | 0, τ, y, k, hy, hk, hn => absurd hn (by omega)
  | n + 1, τ, y, k, hy, hk, hn => by
    have z53 : (53 : Int32).toInt = 53 := rfl
    unfold g_X8_reset_2
    try dsimp only
    by_cases hc : (53 : Int32) ≤ y
    · rw [if_pos hc]
      rw [le32] at hc
      exact ⟨τ, rfl, rfl, rfl, fun _ _ => rfl, fun _ _ => rfl, fun i h1 h2 => by omega⟩
    · rw [if_neg hc]
      rw [le32] at hc
      have ey : y.toNatClampNeg = k := clampE hy
      rw [ey]
      obtain ⟨ρ, e, r1, r2, r3, r4, r5⟩ := resetL n (upA τ 0 k 0) (y + 1) (k + 1) (by rw [rs_step (N := 53) (by omega) (by omega) (by decide), hy]; rfl) (by omega) (by omega)
      refine ⟨ρ, e, r1, r2, fun j hj => (r3 j hj).trans (up_ne hj), fun i hi => ?_, fun i h1 h2 => ?_⟩
      · rw [r4 i (by omega)]
        exact upd_ne (f := τ.2.1 0) (by omega)
      · by_cases q : i = k
        · rw [r4 i (by omega), q]
          exact upd_eq (f := τ.2.1 0)
        · exact r5 i (by omega) h2
theorem GSx.c {n : Int} {a b c : Int32} {G : Nat → Int64} {d e f : Int32} {B B' : Nat → Int32} (h : B' = B) (g : GSx n a b c G d e f B) : GSx n a b c G d e f B' := h ▸ g
theorem PP.reset {n m : Int} {σ μ : PS} (h : PP n m σ μ) : PP n m (f_X7_reset σ) (f_X8_reset μ) := by
  obtain ⟨ρ, e, r1, r2, r3, r4, r5⟩ := resetL 54 μ 0 0 rfl (by omega) (by omega)
  have e2 : f_X8_reset μ = f_X8_defaults (upA (upA (upS (upS (upS ρ 4 2) 5 0) 6 1) 0 6 720) 0 7 1200) := e
  have hs : szOk 2 := Or.inr (Or.inl rfl)
  have ho : bd 0 0 3 := ⟨by decide, by decide⟩
  have em := measE (μ := upA (upA (upS (upS (upS ρ 4 2) 5 0) 6 1) 0 6 720) 0 7 1200) rfl rfl hs ho
  rw [e2]
  refine ⟨?_, ?_, ?_⟩
  · unfold f_X7_reset
    try dsimp only
    rw [chooseE]
    refine GW.defaults ⟨⟨rfl, rfl⟩, ⟨rfl, rfl, rfl⟩, ⟨rfl, rfl, ?_, ?_, ?_, ?_, ?_⟩, fun i hi => absurd hi ?_, hs, ho, (show bd 1 1 99 from ⟨by decide, by decide⟩), (show bd 720 0 1966080 from ⟨by decide, by decide⟩), (show bd 1200 0 130000 from ⟨by decide, by decide⟩), (show bd 0 0 1 from ⟨by decide, by decide⟩), (show bd 0 0 1 from ⟨by decide, by decide⟩), (show bd 0 0 3 from ⟨by decide, by decide⟩), (show bd 0 0 1 from ⟨by decide, by decide⟩), (show bd 0 0 20 from ⟨by decide, by decide⟩)⟩
    · exact r5 8 (by omega) (by omega)
    · exact r5 9 (by omega) (by omega)
    · exact r5 10 (by omega) (by omega)
    · exact r5 11 (by omega) (by omega)
    · exact r5 12 (by omega) (by omega)
    · show ¬ (i : Int) < 0
      omega
  · unfold f_X7_reset f_X8_defaults
    try dsimp only
    rw [chooseE, em]
    show GSx n (σ.1 31) (σ.1 32) (σ.1 33) σ.2.2 (ρ.1 23) (ρ.1 24) (ρ.1 25) (ρ.2.1 4)
    rw [r1, r3 4 (by decide)]
    exact h.2.1
  · unfold f_X7_reset f_X8_defaults
    try dsimp only
    rw [chooseE, em]
    show GDx m (σ.1 34) (σ.2.1 4) (ρ.1 27) (ρ.2.1 5)
    rw [r1, r3 5 (by decide)]
    exact h.2.2
theorem PP.short {n m : Int} {σ μ : PS} {b : Int32} (hm : m ≤ 1000000) (h : PP n m σ μ) : PP n (m + 1) (f_X7_shortSequence σ b) (f_X8_shortSequence μ b) := by
  obtain ⟨⟨a1, a2, a3, a4, a5⟩, ⟨b0, b1, b2, b3, b4, b5, b6, b7, b8, b9, b10, b11, b12⟩, -, c0, c1, c2, c3, c4, c5, c6, c7, c8, c9, c10, c11, c12, c13, c14, c15, c16, c17⟩ := h.1
  unfold f_X7_shortSequence f_X8_shortSequence
  try dsimp only
  by_cases e9 : b = 57
  · subst e9
    rw [if_pos rfl, if_neg (by decide), if_pos rfl]
    have p := c3.1
    refine PP.w ⟨(h.1.sLeft rfl ⟨by decide, ?_⟩).sRight a4 ⟨?_, Int.le_refl _⟩, h.2⟩
    · show (0 : Int) ≤ _
      omega
    · show 0 ≤ (σ.1 16).toInt
      omega
  by_cases eE : b = 61
  · subst eE
    rw [if_neg (by decide), if_pos rfl, if_neg (by decide), if_neg (by decide), if_pos rfl]
    refine h.lineFeed hm (by rw [b7]) ?_
    have z2 : (2 : Int32).toInt = 2 := rfl
    have q1 := c10.1
    have q2 := c10.2
    unfold bd
    rw [i32div (by omega) (by omega), z2]
    omega
  by_cases e6 : b = 69
  · subst e6
    rw [if_neg (by decide), if_neg (by decide), if_pos rfl, if_pos rfl]
    have h1 := (h.ejectIfDue hm).reset
    by_cases q : f_X6_isDue σ = 0
    · rw [if_pos q] at h1 ⊢
      exact h1
    · rw [if_neg q] at h1 ⊢
      exact h1
  rw [if_neg e9, if_neg eE, if_neg e6, if_neg e6, if_neg e9, if_neg eE]
  exact h.w
