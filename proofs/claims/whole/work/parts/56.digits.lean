/-! the pure relation, part 17: one byte -/
def tl (p : PS × Int32) (b : Int32) : PS := if p.2 = 1 then f_X7_character p.1 b else if p.2 = 2 then f_X7_controlCode p.1 b else if p.2 = 3 then f_X7_shortSequence p.1 b else if p.2 = 4 then f_X7_command p.1 else if p.2 = 5 then f_X3_addByte p.1 b else p.1
theorem tlE {σ : PS} {b : Int32} : f_X7_byteComes σ b = tl (f_X5_accept (upS σ 40 (σ.1 40 + 1)) b) b := rfl
theorem tl0 {τ : PS} {b : Int32} : tl (τ, 0) b = τ := rfl
theorem tl1 {τ : PS} {b : Int32} : tl (τ, 1) b = f_X7_character τ b := rfl
theorem tl2 {τ : PS} {b : Int32} : tl (τ, 2) b = f_X7_controlCode τ b := rfl
theorem tl3 {τ : PS} {b : Int32} : tl (τ, 3) b = f_X7_shortSequence τ b := rfl
theorem tl4 {τ : PS} {b : Int32} : tl (τ, 4) b = f_X7_command τ := rfl
theorem tl5 {τ : PS} {b : Int32} : tl (τ, 5) b = f_X3_addByte τ b := rfl
def cm (μ : PS) (b : Int32) : PS := if μ.1 10 = 4 then f_X8_datum μ b else if μ.1 10 = 1 then f_X8_behindEsc μ b else if μ.1 10 = 2 then (if b < 96 then g_X8_comes_79 μ b else if 126 < b then g_X8_comes_79 μ b else f_X8_beginField (upS (upS μ 12 b) 10 3)) else g_X8_comes_79 μ b
theorem cmE {μ : PS} {b : Int32} : f_X8_comes μ b = cm (upS μ 22 (μ.1 22 + 1)) b := rfl
theorem Rel.page {n : Int} {σ μ σ' μ' : PS} (h : Rel n σ μ) (hp : PP (n + 1) (n + 1) σ' μ') (f7 : Fr7 σ σ') (f8 : Fr8 μ μ') : Rel (n + 1) σ' μ' := ⟨⟨hp, RB.fr h.1.2 f7 f8⟩, h.2.fr f7 f8⟩
/-- a state of the parser that isn't in a field -/
theorem GP.low {σ μ μ' : PS} {v : Int32} (h : GP σ μ) (hd : σ.1 5 = 0) (hv : bd v 0 3) (h3 : ¬ v = 3) (e10 : μ'.1 10 = v) (e11 : μ'.1 11 = μ.1 11) (e12 : μ'.1 12 = μ.1 12) (e19 : μ'.1 19 = μ.1 19) : GP (upS σ 6 v) μ' := by
  obtain ⟨⟨h1, h2, h4, h5⟩, ⟨g1, g2, g3⟩, -, -, -⟩ := h
  exact ⟨⟨e11.trans h1, e12.trans h2, h4, h5⟩, ⟨e19.trans g1, g2, hv⟩, fun _ => e10, fun q => absurd hd q, fun q => absurd q h3⟩
theorem b03 {v : Int32} (h : v = 0 ∨ v = 1 ∨ v = 2) : bd v 0 3 ∧ ¬ v = 3 := by
  rcases h with rfl | rfl | rfl <;> exact ⟨⟨by decide, by decide⟩, by decide⟩
/-- digits -/
theorem FRx.dig3 {pl mi wh fr ndw msg neg mwh beh mpl b : Int32} (h : FRx 3 pl mi wh fr ndw 2 msg neg mwh beh mpl) (h1 : 48 ≤ b.toInt) (h2 : b.toInt ≤ 57) : (4 ≤ mpl → FRx 3 pl mi wh (fr + (b - 48) * ndw) (ndw / 10) 2 msg neg mwh beh mpl) ∧ (¬ 4 ≤ mpl → FRx 3 pl mi wh (fr + (b - 48) * ndw) (ndw / 10) 2 msg neg mwh ((10 * beh) + b - 48) (mpl + 1)) := by
  obtain ⟨w, s, g, -, hc⟩ := h
  have ed : (b - 48).toInt = b.toInt - 48 := by rw [i32sub (by rw [n48]; omega) (by rw [n48]; omega), n48]
  have key : ∀ (B N : Int) (M : Int32), 0 ≤ B → 10 * B + 9 ≤ 9999 → M.toInt = N → 0 ≤ N → N ≤ 1000 → beh.toInt ≤ B → 0 ≤ beh.toInt → (10 * beh + b - 48).toInt = 10 * beh.toInt + (b.toInt - 48) ∧ ((b - 48) * M).toInt = (b.toInt - 48) * N := fun B N M q1 q2 q3 q4 q5 q6 q7 => by
    have e1 : (10 * beh).toInt = 10 * beh.toInt := by rw [i32mul (by rw [n10]; omega) (by rw [n10]; omega), n10]
    have e2 : (10 * beh + b).toInt = 10 * beh.toInt + b.toInt := by rw [i32add (by omega) (by omega), e1]
    have k1 : 0 ≤ (b.toInt - 48) * N := Int.mul_nonneg (by omega) q4
    have k2 : (b.toInt - 48) * N ≤ 9 * 1000 := Int.mul_le_mul (by omega) q5 q4 (by omega)
    refine ⟨by rw [i32sub (by rw [n48]; omega) (by rw [n48]; omega), e2, n48]; omega, ?_⟩
    rw [i32mul (by rw [ed, q3]; omega) (by rw [ed, q3]; omega), ed, q3]
  have hv : ((3 : Int32) = 0 ∧ (2 : Int32) = 0) ∨ (((3 : Int32) = 1 ∨ (3 : Int32) = 2) ∧ (2 : Int32) = 1) ∨ ((3 : Int32) = 3 ∧ (2 : Int32) = 2) := Or.inr (Or.inr ⟨rfl, rfl⟩)
  rcases hc with ⟨p1, p2, p3, p4⟩ | ⟨p1, p2, p3, p4⟩ | ⟨p1, p2, p3, p4⟩ | ⟨p1, p2, p3, p4⟩ | ⟨p1, p2, p3, p4⟩
  · subst p1 p2 p3 p4
    refine ⟨fun q => absurd q (by decide), fun _ => ⟨w, s, g, hv, Or.inr (Or.inl ⟨rfl, by decide, ?_, ?_⟩)⟩⟩
    · obtain ⟨e1, e2⟩ := key 0 1000 1000 (by omega) (by omega) rfl (by omega) (by omega) (by decide) (by decide)
      rw [n0] at e1
      unfold bd
      omega
    · obtain ⟨e1, e2⟩ := key 0 1000 1000 (by omega) (by omega) rfl (by omega) (by omega) (by decide) (by decide)
      rw [n0] at e1
      rw [i32add (by rw [n0]; omega) (by rw [n0]; omega), n0]
      omega
  · subst p1 p2
    obtain ⟨b1, b2⟩ := p3
    obtain ⟨e1, e2⟩ := key 9 100 100 (by omega) (by omega) rfl (by omega) (by omega) (by omega) (by omega)
    refine ⟨fun q => absurd q (by decide), fun _ => ⟨w, s, g, hv, Or.inr (Or.inr (Or.inl ⟨rfl, by decide, ⟨by omega, by omega⟩, ?_⟩))⟩⟩
    rw [i32add (by omega) (by omega)]
    omega
  · subst p1 p2
    obtain ⟨b1, b2⟩ := p3
    obtain ⟨e1, e2⟩ := key 99 10 10 (by omega) (by omega) rfl (by omega) (by omega) (by omega) (by omega)
    refine ⟨fun q => absurd q (by decide), fun _ => ⟨w, s, g, hv, Or.inr (Or.inr (Or.inr (Or.inl ⟨rfl, by decide, ⟨by omega, by omega⟩, ?_⟩)))⟩⟩
    rw [i32add (by omega) (by omega)]
    omega
  · subst p1 p2
    obtain ⟨b1, b2⟩ := p3
    obtain ⟨e1, e2⟩ := key 999 1 1 (by omega) (by omega) rfl (by omega) (by omega) (by omega) (by omega)
    refine ⟨fun q => absurd q (by decide), fun _ => ⟨w, s, g, hv, Or.inr (Or.inr (Or.inr (Or.inr ⟨rfl, by decide, ⟨by omega, by omega⟩, ?_⟩)))⟩⟩
    rw [i32add (by omega) (by omega)]
    omega
  · subst p1 p2
    obtain ⟨b1, b2⟩ := p3
    refine ⟨fun _ => ⟨w, s, g, hv, Or.inr (Or.inr (Or.inr (Or.inr ⟨rfl, by decide, ⟨b1, b2⟩, ?_⟩)))⟩, fun q => absurd (show (4 : Int32) ≤ 4 by decide) q⟩
    have e2 : ((b - 48) * 0).toInt = 0 := by rw [i32mul (by rw [n0]; omega) (by rw [n0]; omega), n0]; omega
    rw [i32add (by omega) (by omega)]
    omega
theorem FRx.dig12 {vs pl mi wh fr ndw part msg neg mwh beh mpl b : Int32} (h : FRx vs pl mi wh fr ndw part msg neg mwh beh mpl) (h1 : 48 ≤ b.toInt) (h2 : b.toInt ≤ 57) : FRx 2 pl mi (if (wh * 10 + (b - 48)) < 32767 then (wh * 10 + (b - 48)) else 32767) fr ndw 1 msg neg (if ((mwh * 10 + b) - 48) ≤ 32767 then ((mwh * 10 + b) - 48) else 32767) beh mpl := by
  obtain ⟨⟨w1, w2⟩, s, g, -, hc⟩ := h
  subst w1
  obtain ⟨w2, w3⟩ := w2
  have z : (32767 : Int32).toInt = 32767 := rfl
  have ed : (b - 48).toInt = b.toInt - 48 := by rw [i32sub (by rw [n48]; omega) (by rw [n48]; omega), n48]
  have em : (mwh * 10).toInt = mwh.toInt * 10 := by rw [i32mul (by rw [n10]; omega) (by rw [n10]; omega), n10]
  have e1 : (mwh * 10 + (b - 48)).toInt = mwh.toInt * 10 + (b.toInt - 48) := by rw [i32add (by omega) (by omega), em, ed]
  have e2 : (mwh * 10 + b).toInt = mwh.toInt * 10 + b.toInt := by rw [i32add (by omega) (by omega), em]
  have e3 : (mwh * 10 + b - 48).toInt = mwh.toInt * 10 + (b.toInt - 48) := by rw [i32sub (by rw [n48]; omega) (by rw [n48]; omega), e2, n48]; omega
  have e4 : mwh * 10 + b - 48 = mwh * 10 + (b - 48) := i32ext (by rw [e1, e3])
  rw [e4]
  refine ⟨⟨?_, ?_⟩, s, g, Or.inr (Or.inl ⟨Or.inr rfl, rfl⟩), hc⟩
  · by_cases q : mwh * 10 + (b - 48) < 32767
    · rw [if_pos q, if_pos (show mwh * 10 + (b - 48) ≤ 32767 by rw [lt32] at q; rw [le32]; omega)]
    · rw [if_neg q]
      by_cases q2 : mwh * 10 + (b - 48) ≤ 32767
      · rw [if_pos q2]
        rw [lt32] at q
        rw [le32] at q2
        exact i32ext (by omega)
      · rw [if_neg q2]
  · by_cases q : mwh * 10 + (b - 48) < 32767
    · rw [if_pos q]
      rw [lt32] at q
      exact ⟨by omega, by omega⟩
    · rw [if_neg q]
      exact ⟨by decide, by decide⟩
theorem Rel.dig {n : Int} {σ μ : PS} {b : Int32} (h : Rel n σ μ) (hs : σ.1 6 = 3) (h1 : 48 ≤ b.toInt) (h2 : b.toInt ≤ 57) : Rel (n + 1) (f_X5_digit σ (b - 48)) (f_X8_field μ b) := by
  have hA := h.1.w (k := n + 1) (by omega)
  obtain ⟨-, g1, g2, g3, g4, g5⟩ := h
  have hF := g5 hs
  have hF2 := hF
  obtain ⟨w, s, g, hvp, hc⟩ := hF2
  unfold f_X5_digit
  by_cases k : σ.1 7 = 3
  · have kp : μ.1 13 = 2 := by
      rcases hvp with ⟨q, -⟩ | ⟨q, -⟩ | ⟨-, q⟩
      · rw [k] at q; exact absurd q (by decide)
      · rw [k] at q; exact absurd q (fun z => z.elim (by decide) (by decide))
      · exact q
    rw [if_pos k, fld_dig2 h1 h2 kp]
    have hF3 : FRx 3 (σ.1 8) (σ.1 9) (σ.1 10) (σ.1 11) (σ.1 12) 2 (μ.1 14) (μ.1 15) (μ.1 16) (μ.1 17) (μ.1 18) := by
      have := hF
      unfold GF at this
      rw [k, kp] at this
      exact this
    obtain ⟨d1, d2⟩ := hF3.dig3 h1 h2
    by_cases k4 : 4 ≤ μ.1 18
    · rw [if_pos k4]
      refine ⟨hA, g1, g2, g3, g4, fun _ => ?_⟩
      have d := d1 k4
      rw [← k, ← kp] at d
      exact d
    · rw [if_neg k4]
      refine ⟨hA, g1, g2, g3, g4, fun _ => ?_⟩
      have d := d2 k4
      rw [← k, ← kp] at d
      exact d
  · have kp : (μ.1 13).toInt < 2 := by
      rcases hvp with ⟨-, q⟩ | ⟨-, q⟩ | ⟨q, -⟩
      · rw [q]; decide
      · rw [q]; decide
      · exact absurd q k
    rw [if_neg k, fld_dig1 h1 h2 kp]
    exact ⟨hA, g1, g2, g3, g4, fun _ => FRx.dig12 hF h1 h2⟩
