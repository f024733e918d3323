/-! the pure relation, part 18: one byte on both sides -/
theorem b27 {b : Int32} (h : ¬ b = 27) : (if b = 27 then (1 : Int32) else 0) = 0 := if_neg h
theorem y01 : bd (0 : Int32) 0 1 := ⟨by decide, by decide⟩
theorem y11 : bd (1 : Int32) 0 1 := ⟨by decide, by decide⟩
/-- a byte in a field -/
theorem Rel.fld {n : Int} {σ μ : PS} {b : Int32} (hn : n ≤ 5000) (h : Rel n σ μ) (hd : σ.1 5 = 0) (hs : σ.1 6 = 3) (hb : ¬ b = 27) : Rel (n + 1) (tl (f_X5_inField σ b) b) (f_X8_field μ b) := by
  have hR := h
  have hA := h.1.w (k := n + 1) (by omega)
  obtain ⟨hA0, ⟨g1, g1', bf, bg⟩, g2, g3, g4, g5⟩ := h
  have hF := g5 hs
  by_cases kd : 48 ≤ b.toInt ∧ b.toInt ≤ 57
  · rw [inf_dig kd.1 kd.2, tl0]
    exact hR.dig hs kd.1 kd.2
  have kd2 : b.toInt < 48 ∨ 57 < b.toInt := by omega
  rw [fld_no kd2]
  by_cases k1 : 64 ≤ b.toInt ∧ b.toInt ≤ 94
  · rw [if_neg (show ¬ (μ.1 13 = 0 ∧ (b = 43 ∨ b = 45)) from fun q => q.2.elim (fun z => by rw [eq32, n43] at z; omega) (fun z => by rw [eq32, n45] at z; omega)), if_neg (show ¬ (¬ 2 ≤ μ.1 13 ∧ b = 46) from fun q => by have z := q.2; rw [eq32, n46] at z; omega), fld_147, if_pos k1, inf_E, if_pos k1, tl4]
    exact Rel.cmd hn hA0 g1 g1' bf bg hF (Or.inl ⟨rfl, rfl⟩)
  by_cases k2 : 96 ≤ b.toInt ∧ b.toInt ≤ 126
  · rw [if_neg (show ¬ (μ.1 13 = 0 ∧ (b = 43 ∨ b = 45)) from fun q => q.2.elim (fun z => by rw [eq32, n43] at z; omega) (fun z => by rw [eq32, n45] at z; omega)), if_neg (show ¬ (¬ 2 ≤ μ.1 13 ∧ b = 46) from fun q => by have z := q.2; rw [eq32, n46] at z; omega), fld_147, if_neg k1, if_pos k2, inf_E, if_neg k1, if_pos k2, tl4]
    have := Rel.cmd (st := 3) (e := b - 32) (y := 0) hn hA0 g1 g1' bf bg hF (Or.inr ⟨rfl, rfl⟩)
    rw [upS_same hs] at this
    exact this
  rw [inf_no kd2 k1 k2, fld_147, if_neg k1, if_neg k2, b27 hb]
  have hF2 := hF
  obtain ⟨w, s, g, hvp, hc⟩ := hF2
  have v0 : σ.1 7 = 0 ↔ μ.1 13 = 0 := by
    rcases hvp with ⟨q, z⟩ | ⟨q, z⟩ | ⟨q, z⟩
    · rw [q, z]
    · rw [z]
      constructor
      · intro a
        rw [a] at q
        exact absurd q (fun z => z.elim (by decide) (by decide))
      · intro a; exact absurd a one_ne
    · rw [q, z]
      decide
  have v3 : ¬ σ.1 7 = 3 ↔ ¬ 2 ≤ μ.1 13 := by
    rcases hvp with ⟨q, z⟩ | ⟨q, z⟩ | ⟨q, z⟩
    · rw [q, z]; decide
    · rw [z]
      rcases q with q | q <;> rw [q] <;> decide
    · rw [q, z]; decide
  by_cases c1 : σ.1 7 = 0 ∧ (b = 43 ∨ b = 45)
  · rw [if_pos c1, if_pos (show μ.1 13 = 0 ∧ (b = 43 ∨ b = 45) from ⟨v0.mp c1.1, c1.2⟩), tl0]
    rcases c1 with ⟨c0, c1 | c1⟩
    · subst c1
      rw [if_pos rfl, if_neg (show ¬ (43 : Int32) = 45 by decide)]
      unfold g_X8_field_37
      rw [if_neg (show ¬ (43 : Int32) = 45 by decide)]
      exact ⟨hA, ⟨g1, g1', bf, bg⟩, g2, g3, g4, fun _ => ⟨w, ⟨rfl, y01, y11⟩, rfl, Or.inr (Or.inl ⟨Or.inl rfl, rfl⟩), hc⟩⟩
    · subst c1
      rw [if_neg (show ¬ (45 : Int32) = 43 by decide), if_pos rfl]
      unfold g_X8_field_37
      rw [if_pos rfl]
      exact ⟨hA, ⟨g1, g1', bf, bg⟩, g2, g3, g4, fun _ => ⟨w, ⟨rfl, y11, y01⟩, rfl, Or.inr (Or.inl ⟨Or.inl rfl, rfl⟩), hc⟩⟩
  rw [if_neg c1, if_neg (show ¬ (μ.1 13 = 0 ∧ (b = 43 ∨ b = 45)) from fun q => c1 ⟨v0.mpr q.1, q.2⟩)]
  by_cases c2 : ¬ σ.1 7 = 3 ∧ b = 46
  · rw [if_pos c2, if_pos (show ¬ 2 ≤ μ.1 13 ∧ b = 46 from ⟨v3.mp c2.1, c2.2⟩), tl0]
    exact ⟨hA, ⟨g1, g1', bf, bg⟩, g2, g3, g4, fun _ => ⟨w, s, g, Or.inr (Or.inr ⟨rfl, rfl⟩), hc⟩⟩
  rw [if_neg c2, if_neg (show ¬ (¬ 2 ≤ μ.1 13 ∧ b = 46) from fun q => c2 ⟨v3.mpr q.1, q.2⟩), tl0]
  exact ⟨hA, hR.2.low hd (b03 (Or.inl rfl)).1 (b03 (Or.inl rfl)).2 rfl rfl rfl rfl⟩
/-- escape, wherever no data are under way -/
theorem fld27 {τ : PS} : f_X8_field τ 27 = upS τ 10 1 := by
  rw [fld_no (Or.inl (by decide)), if_neg (show ¬ (τ.1 13 = 0 ∧ ((27 : Int32) = 43 ∨ (27 : Int32) = 45)) from fun q => q.2.elim (by decide) (by decide)), if_neg (show ¬ (¬ 2 ≤ τ.1 13 ∧ (27 : Int32) = 46) from fun q => absurd q.2 (by decide)), fld_147, if_neg (by decide), if_neg (by decide), if_pos rfl]
theorem o03n {o : Int32} (h : bd o 0 3) : o = 0 ∨ o = 1 ∨ o = 2 ∨ o = 3 := by
  obtain ⟨h1, h2⟩ := h
  simp only [eq32, n0, n1, n2, n3]
  omega
theorem Rel.esc {n : Int} {σ μ : PS} (h : Rel n σ μ) (hd : σ.1 5 = 0) : Rel (n + 1) (tl (f_X5_accept σ 27) 27) (cm μ 27) := by
  have hA := h.1.w (k := n + 1) (by omega)
  have e7 : tl (f_X5_accept σ 27) 27 = upS σ 6 1 := by
    have : f_X5_accept σ 27 = (upS σ 6 1, 0) := by
      unfold f_X5_accept
      rw [if_pos (show σ.1 5 ≤ 0 by rw [hd]; decide), if_pos rfl]
    rw [this, tl0]
  have e10 : μ.1 10 = σ.1 6 := h.2.2.2.1 hd
  have fin : ∀ μ' : PS, RA n σ μ' → μ'.1 10 = 1 → μ'.1 11 = μ.1 11 → μ'.1 12 = μ.1 12 → μ'.1 19 = μ.1 19 → Rel (n + 1) (upS σ 6 1) μ' := fun μ' q0 q1 q2 q3 q4 => ⟨(RA.w q0 (by omega) : RA (n + 1) σ μ'), h.2.low hd (b03 (Or.inr (Or.inl rfl))).1 (b03 (Or.inr (Or.inl rfl))).2 q1 q2 q3 q4⟩
  rw [e7]
  unfold cm g_X8_comes_79 g_X8_comes_104
  try dsimp only
  rw [e10]
  rcases o03n h.2.2.1.2.2 with q | q | q | q
  · rw [q, if_neg (by decide), if_neg (by decide), if_neg (by decide), if_pos (by decide), if_pos rfl]
    exact fin (upS μ 10 1) h.1 rfl rfl rfl rfl
  · rw [q, if_neg (by decide), if_pos rfl]
    have : f_X8_behindEsc μ 27 = upS μ 10 1 := by
      unfold f_X8_behindEsc g_X8_behindEsc_25 g_X8_behindEsc_55
      rw [if_pos (by decide), if_pos (by decide), if_pos rfl]
    rw [this]
    exact fin (upS μ 10 1) h.1 rfl rfl rfl rfl
  · rw [q, if_neg (by decide), if_neg (by decide), if_pos rfl, if_pos (by decide), if_neg (by decide), if_pos rfl, fld27]
    exact fin (upS (f_X8_beginField (upS μ 10 3)) 10 1) h.1 rfl rfl rfl rfl
  · rw [q, if_neg (by decide), if_neg (by decide), if_neg (by decide), if_neg (by decide), if_neg (by decide), fld27]
    exact fin (upS μ 10 1) h.1 rfl rfl rfl rfl
theorem d101 {τ : PS} : g_X8_datum_101 τ = upS τ 10 (if τ.1 19 ≤ 0 then (if τ.1 20 = 0 then 3 else 0) else 4) := by
  unfold g_X8_datum_101
  split
  · split <;> rfl
  · rfl
/-- the parser behind a datum -/
theorem GP.dat {σ μ σ' μ' : PS} (h : GP σ μ) (hd : ¬ σ.1 5 = 0) (s : ∀ k : Nat, (k ≤ 12 ∧ k ≠ 5) → σ'.1 k = σ.1 k) (s5 : σ'.1 5 = σ.1 5 - 1) (s39 : σ'.1 39 = σ.1 39) (t : ∀ k : Nat, (10 ≤ k ∧ k ≤ 21 ∧ k ≠ 19) → μ'.1 k = μ.1 k) (t19 : μ'.1 19 = μ.1 19 - 1) (hl : LK (σ.1 5) μ → μ.1 21 = 2 → LK (σ.1 5 - 1) μ') : GP σ' (upS μ' 10 (if μ'.1 19 ≤ 0 then (if μ'.1 20 = 0 then 3 else 0) else 4)) := by
  obtain ⟨h1, ⟨g1, ⟨g2, g2'⟩, g3⟩, -, h4, h5⟩ := h
  obtain ⟨k1, k2, k3⟩ := h4 hd
  have ed : (σ.1 5 - 1).toInt = (σ.1 5).toInt - 1 := by rw [i32sub (by rw [n1]; omega) (by rw [n1]; omega), n1]
  have hd2 := hd
  rw [eq32, n0] at hd2
  have hg : GF σ μ → GF σ' (upS μ' 10 (if μ'.1 19 ≤ 0 then (if μ'.1 20 = 0 then 3 else 0) else 4)) := fun q => q.cg (fun k hk => s k (by omega)) (fun k hk => (up_ne (by omega)).trans (t k (by omega)))
  unfold GP
  rw [s 0 (by decide), s 1 (by decide), s 3 (by decide), s5, s 6 (by decide), s39]
  refine ⟨?_, ⟨?_, ⟨by omega, by omega⟩, g3⟩, fun q => ?_, fun q => ⟨?_, ?_, ?_⟩, fun q => hg (h5 q)⟩
  · show μ'.1 11 = _ ∧ μ'.1 12 = _ ∧ _
    rw [t 11 (by decide), t 12 (by decide)]
    exact h1
  · show μ'.1 19 = _
    rw [t19, g1]
  · show (if μ'.1 19 ≤ 0 then (if μ'.1 20 = 0 then 3 else 0) else 4) = σ.1 6
    rw [t19, g1, q, if_pos (show (0 : Int32) ≤ 0 by decide), t 20 (by decide)]
    rcases k2 with ⟨z1, z2⟩ | ⟨z1, z2⟩
    · rw [z1, z2, if_neg one_ne]
    · rw [z1, z2, if_pos rfl]
  · show (if μ'.1 19 ≤ 0 then (if μ'.1 20 = 0 then 3 else 0) else 4) = (4 : Int32)
    rw [t19, g1, if_neg (show ¬ σ.1 5 - 1 ≤ 0 by rw [le32, n0]; rw [eq32, n0] at q; omega)]
  · show (σ.1 6 = 0 ∧ μ'.1 20 = 1) ∨ (σ.1 6 = 3 ∧ μ'.1 20 = 0)
    rw [t 20 (by decide)]
    exact k2
  · show (TXx (σ.1 0) (σ.1 1) (σ.1 3) ∧ μ'.1 21 = 1) ∨ (¬ TXx (σ.1 0) (σ.1 1) (σ.1 3) ∧ ((μ'.1 21 = 2 ∧ σ.1 39 = 0 ∧ LK (σ.1 5 - 1) μ') ∨ (μ'.1 21 = 0 ∧ σ.1 39 = 1)))
    rw [t 21 (by decide)]
    rcases k3 with k3 | ⟨k3, ⟨z1, z2, z3⟩ | z⟩
    · exact Or.inl k3
    · exact Or.inr ⟨k3, Or.inl ⟨z1, z2, hl z3 z1⟩⟩
    · exact Or.inr ⟨k3, Or.inr z⟩
theorem Rel.dat {n : Int} {σ μ : PS} {b : Int32} (hn : n ≤ 5000) (h : Rel n σ μ) (hd : ¬ σ.1 5 = 0) (hb : bd b 0 255) : Rel (n + 1) (tl (f_X5_accept σ b) b) (cm μ b) := by
  have hg := h.2.2.1.2.1
  have h4 := h.2.2.2.2.1 hd
  obtain ⟨k1, k2, k3⟩ := h4
  have hc : ¬ σ.1 5 ≤ 0 := by
    have := hg.1
    rw [eq32, n0] at hd
    rw [le32, n0]
    omega
  have e8 : cm μ b = f_X8_datum μ b := by
    unfold cm
    rw [if_pos k1]
  have e7 : f_X5_accept σ b = if TXx (σ.1 0) (σ.1 1) (σ.1 3) then (upS σ 5 (σ.1 5 - 1), 1) else (upS σ 5 (σ.1 5 - 1), 5) := by
    unfold f_X5_accept
    rw [if_neg hc, txE]
    show (if (if TXx (σ.1 0) (σ.1 1) (σ.1 3) then (1 : Int32) else 0) = 0 then _ else _) = _
    by_cases q : TXx (σ.1 0) (σ.1 1) (σ.1 3)
    · rw [if_pos q, if_neg one_ne, if_pos q]
    · rw [if_neg q, if_pos rfl, if_neg q]
  rw [e8, e7]
  have hA : RA n (upS σ 5 (σ.1 5 - 1)) (upS μ 19 (μ.1 19 - 1)) := h.1
  unfold f_X8_datum
  try dsimp only
  rcases k3 with ⟨kT, km⟩ | ⟨kT, ⟨km, kl, kL⟩ | ⟨km, kl⟩⟩
  · rw [if_pos kT, tl1, if_pos km, d101]
    have f7 := fr7_f_X7_character (σ := upS σ 5 (σ.1 5 - 1)) (τ := upS σ 5 (σ.1 5 - 1)) (x1 := b) Fr7.r
    have f8 := fr8_f_X8_character (σ := upS μ 19 (μ.1 19 - 1)) (τ := upS μ 19 (μ.1 19 - 1)) (x1 := b) Fr8.r
    have hp := PP.character (b := b) (by omega) (by omega) hA.1 hA.2.1 hb
    have hR : RA (n + 1) (f_X7_character (upS σ 5 (σ.1 5 - 1)) b) (f_X8_character (upS μ 19 (μ.1 19 - 1)) b) := ⟨hp, RB.fr hA.2 f7 f8⟩
    refine ⟨hR, h.2.dat hd (fun k q => (f7.1 k (by omega)).trans (up_ne q.2)) (f7.1 5 (by omega)) ((f7.1 39 (by omega)).trans rfl) (fun k q => (f8.1 k (by omega)).trans (up_ne q.2.2)) (f8.1 19 (by omega)) (fun _ q => ?_)⟩
    rw [km] at q
    exact absurd q (by decide)
  · have e101 : (if 4096 ≤ μ.1 31 then g_X8_datum_101 (upA (upS μ 19 (μ.1 19 - 1)) 6 (Int32.toNatClampNeg (((7 * (μ.1 29)) - 7) + 6)) ((μ.2.1 6 (Int32.toNatClampNeg (((7 * (μ.1 29)) - 7) + 6))) - 1)) else g_X8_datum_101 (upA (upS (upA (upA (upS μ 19 (μ.1 19 - 1)) 6 (Int32.toNatClampNeg (((7 * (μ.1 29)) - 7) + 6)) ((μ.2.1 6 (Int32.toNatClampNeg (((7 * (μ.1 29)) - 7) + 6))) - 1)) 7 (Int32.toNatClampNeg (μ.1 31)) (vp_nar .byte (Int8.toInt32 (Int32.toInt8 b)))) 31 ((μ.1 31) + 1)) 6 (Int32.toNatClampNeg (((7 * (μ.1 29)) - 7) + 5)) (((upS (upA (upA (upS μ 19 (μ.1 19 - 1)) 6 (Int32.toNatClampNeg (((7 * (μ.1 29)) - 7) + 6)) ((μ.2.1 6 (Int32.toNatClampNeg (((7 * (μ.1 29)) - 7) + 6))) - 1)) 7 (Int32.toNatClampNeg (μ.1 31)) (vp_nar .byte (Int8.toInt32 (Int32.toInt8 b)))) 31 ((μ.1 31) + 1)).2.1 6 (Int32.toNatClampNeg (((7 * (μ.1 29)) - 7) + 5))) + 1))) = g_X8_datum_101 (dat8 (upS μ 19 (μ.1 19 - 1)) b) := by
      show _ = g_X8_datum_101 (if 4096 ≤ μ.1 31 then _ else _)
      by_cases q : 4096 ≤ μ.1 31
      · rw [if_pos q, if_pos q]; rfl
      · rw [if_neg q, if_neg q]; rfl
    rw [if_neg kT, tl5, if_neg (show ¬ μ.1 21 = 1 by rw [km]; decide), if_pos km, e101, d101]
    have kL2 : LK (σ.1 5) (upS μ 19 (μ.1 19 - 1)) := kL
    obtain ⟨q1, q2⟩ := GQ.byte (b := b) (dl := σ.1 5) hA.2.2.2.1 (show (upS σ 5 (σ.1 5 - 1)).1 39 = 0 from kl) kL2
    have f7 := fa_byte (σ := upS σ 5 (σ.1 5 - 1)) (b := b)
    have f8 := fa_dat (σ := upS μ 19 (μ.1 19 - 1)) (b := b)
    have hR := (RA.fa hA f7 f8 q1).w (k := n + 1) (by omega)
    refine ⟨hR, h.2.dat hd (fun k q => (f7.1 k (by omega)).trans (up_ne q.2)) (f7.1 5 (by omega)) byte39 (fun k q => ?_) (f8.1 19 (by omega)) (fun _ _ => q2)⟩
    by_cases q21 : k = 21
    · subst q21
      exact dat21
    · exact (f8.1 k (by omega)).trans (up_ne q.2.2)
  · rw [if_neg kT, tl5, if_neg (show ¬ μ.1 21 = 1 by rw [km]; decide), if_neg (show ¬ μ.1 21 = 2 by rw [km]; decide), d101]
    have e9 : f_X3_addByte (upS σ 5 (σ.1 5 - 1)) b = upS σ 5 (σ.1 5 - 1) := by
      unfold f_X3_addByte
      rw [if_neg (show ¬ (upS σ 5 (σ.1 5 - 1)).1 39 = 0 by show ¬ σ.1 39 = 0; rw [kl]; decide)]
    rw [e9]
    refine ⟨hA.w (by omega), h.2.dat hd (fun k q => up_ne q.2) rfl rfl (fun k q => up_ne q.2.2) rfl (fun _ q => ?_)⟩
    rw [km] at q
    exact absurd q (by decide)
/-- no data, no escape -/
theorem Rel.plain {n : Int} {σ μ : PS} {b : Int32} (hn : n ≤ 5000) (h : Rel n σ μ) (hd : σ.1 5 = 0) (hb : bd b 0 255) (hb2 : ¬ b = 27) : Rel (n + 1) (tl (f_X5_accept σ b) b) (cm μ b) := by
  have e10 : μ.1 10 = σ.1 6 := h.2.2.2.1 hd
  have hA := h.1.w (k := n + 1) (by omega)
  obtain ⟨hb0, hb1⟩ := hb
  unfold cm g_X8_comes_79 g_X8_comes_104 f_X5_accept
  try dsimp only
  rw [e10, if_pos (show σ.1 5 ≤ 0 by rw [hd]; decide), if_neg hb2]
  rcases o03n h.2.2.1.2.2 with q | q | q | q
  · simp only [if_neg (show ¬ σ.1 6 = 1 by rw [q]; decide), if_neg (show ¬ σ.1 6 = 2 by rw [q]; decide), if_neg (show ¬ σ.1 6 = 3 by rw [q]; decide), if_neg (show ¬ σ.1 6 = 4 by rw [q]; decide), if_pos (show σ.1 6 ≤ 1 by rw [q]; decide), if_neg hb2]
    by_cases c : b < 32
    · rw [if_pos c, if_pos c, tl2]
      exact h.page (PP.control (by omega) h.1.1).wn (fr7_f_X7_controlCode Fr7.r) (fr8_f_X8_control Fr8.r)
    · rw [if_neg c, if_neg c, tl1]
      exact h.page (PP.character hn (by omega) h.1.1 h.1.2.1 ⟨hb0, hb1⟩) (fr7_f_X7_character Fr7.r) (fr8_f_X8_character Fr8.r)
  · simp only [if_pos q, if_neg (show ¬ σ.1 6 = 4 by rw [q]; decide)]
    unfold f_X5_behindEsc f_X8_behindEsc g_X5_behindEsc_19 g_X8_behindEsc_25 g_X8_behindEsc_55
    try dsimp only
    rw [if_neg hb2]
    have h0 : Rel n (upS σ 6 0) (upS μ 10 0) := ⟨h.1, h.2.low hd (b03 (Or.inl rfl)).1 (b03 (Or.inl rfl)).2 rfl rfl rfl rfl⟩
    have h01 : Rel (n + 1) (upS σ 6 0) (upS μ 10 0) := h0.w (by omega)
    by_cases c1 : b < 48
    · rw [if_pos c1, if_pos c1]
      by_cases c2 : b < 33
      · rw [if_pos c2, if_pos c2]
        exact h01
      · rw [if_neg c2, if_neg c2]
        by_cases c3 : 47 < b
        · rw [if_pos c3, if_pos c3]
          exact h01
        · rw [if_neg c3, if_neg c3]
          rw [lt32, n33] at c2
          rw [lt32, n47] at c3
          obtain ⟨-, ⟨p1, p2, p3, p4⟩, ⟨p5, p6, p7⟩, -, -, -⟩ := h
          exact ⟨hA, ⟨rfl, rfl, ⟨by show 0 ≤ b.toInt; omega, by show b.toInt ≤ 127; omega⟩, by show (0 : Int) ≤ 0; omega, by show (0 : Int) ≤ 127; omega⟩, ⟨p5, p6, by show (0 : Int) ≤ 2; omega, by show (2 : Int) ≤ 3; omega⟩, fun _ => rfl, fun z => absurd hd z, fun (z : (2 : Int32) = 3) => absurd z (by decide)⟩
    · rw [if_neg c1, if_neg c1]
      by_cases c2 : 126 < b
      · rw [if_pos c2, if_pos c2]
        have e1 : ¬ b < 33 := by rw [lt32, n33]; rw [lt32, n126] at c2; omega
        have e2 : 47 < b := by rw [lt32, n47]; rw [lt32, n126] at c2; omega
        rw [if_neg e1, if_neg e1, if_pos e2, if_pos e2]
        exact h01
      · rw [if_neg c2, if_neg c2, tl3]
        exact h0.page (PP.short (by omega) h0.1.1).wn (fr7_f_X7_shortSequence Fr7.r) (fr8_f_X8_shortSequence Fr8.r)
  · simp only [if_pos q, if_neg (show ¬ σ.1 6 = 1 by rw [q]; decide), if_neg (show ¬ σ.1 6 = 4 by rw [q]; decide), if_neg (show ¬ σ.1 6 ≤ 1 by rw [q]; decide)]
    obtain ⟨hA0, ⟨p1, p2, p3, p4⟩, ⟨p5, p6, p7⟩, -, -, -⟩ := h
    have hR3 : Rel n (f_X5_beginField (upS σ 6 3)) (f_X8_beginField (upS μ 10 3)) := ⟨hA0, ⟨p1, p2, p3, p4⟩, ⟨p5, p6, by show (0 : Int) ≤ 3; omega, by show (3 : Int) ≤ 3; omega⟩, fun _ => rfl, fun z => absurd hd z, fun _ => FRx.fresh⟩
    unfold f_X5_behindFamily
    try dsimp only
    by_cases c1 : b < 96
    · rw [if_pos c1, if_pos c1]
      exact hR3.fld hn hd rfl hb2
    · rw [if_neg c1, if_neg c1]
      by_cases c2 : 126 < b
      · rw [if_pos c2, if_pos c2]
        exact hR3.fld hn hd rfl hb2
      · rw [if_neg c2, if_neg c2, tl0]
        rw [lt32, n96] at c1
        rw [lt32, n126] at c2
        exact ⟨hA, ⟨p1, rfl, p3, by show 0 ≤ b.toInt; omega, by show b.toInt ≤ 127; omega⟩, ⟨p5, p6, by show (0 : Int) ≤ 3; omega, by show (3 : Int) ≤ 3; omega⟩, fun _ => rfl, fun z => absurd hd z, fun _ => FRx.fresh⟩
  · simp only [if_pos q, if_neg (show ¬ σ.1 6 = 1 by rw [q]; decide), if_neg (show ¬ σ.1 6 = 2 by rw [q]; decide), if_neg (show ¬ σ.1 6 = 4 by rw [q]; decide), if_neg (show ¬ σ.1 6 ≤ 1 by rw [q]; decide)]
    exact h.fld hn hd q hb2
theorem Rel.byte {n : Int} {σ μ : PS} {b : Int32} (hn : n ≤ 5000) (h : Rel n σ μ) (hb : bd b 0 255) : Rel (n + 1) (f_X7_byteComes σ b) (f_X8_comes μ b) := by
  rw [tlE, cmE]
  have h2 : Rel n (upS σ 40 (σ.1 40 + 1)) (upS μ 22 (μ.1 22 + 1)) := by
    obtain ⟨⟨hp, ht, hk, hq, hb⟩, hg⟩ := h
    refine ⟨⟨hp, ht, hk, hq, ?_⟩, hg⟩
    show μ.1 22 + 1 = σ.1 40 + 1
    rw [show μ.1 22 = σ.1 40 from hb]
  by_cases hd : (upS σ 40 (σ.1 40 + 1)).1 5 = 0
  · by_cases q : b = 27
    · subst q
      exact h2.esc hd
    · exact h2.plain hn hd hb q
  · exact h2.dat hn hd hb
