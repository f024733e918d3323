/-! the pure relation, part 12: keep, bring, look, advance, move, due, take -/
theorem keepL : ∀ (n : Nat) (τ : PS) (x y : Int32) (s k : Nat), x.toInt = (s : Int) → s < 3 → y.toInt = (k : Int) → k ≤ 53 → 53 < n + k → ∃ ρ : PS, g_X8_keep_18 n τ x y = (upA ρ 2 s (vp_nar .boolean 1), 1) ∧ ρ.1 = τ.1 ∧ (∀ j : Nat, j ≠ 1 → ρ.2.1 j = τ.2.1 j) ∧ (∀ i : Nat, k ≤ i → i < 53 → ρ.2.1 1 (53 * s + i) = τ.2.1 0 i) ∧ (∀ i : Nat, (i < 53 * s + k ∨ 53 * s + 53 ≤ i) → ρ.2.1 1 i = τ.2.1 1 i)
  | 0, τ, x, y, s, k, hx, hs, hy, h1, h2 => absurd h2 (by omega)
  | n + 1, τ, x, y, s, k, hx, hs, hy, h1, h2 => by
    have z53 : (53 : Int32).toInt = 53 := rfl
    have z1 : (1 : Int32).toInt = 1 := rfl
    unfold g_X8_keep_18
    try dsimp only
    by_cases hc : 53 ≤ y
    · rw [if_pos hc]
      rw [le32] at hc
      refine ⟨τ, ?_, rfl, fun _ _ => rfl, fun i q1 q2 => absurd q1 (by omega), fun _ _ => rfl⟩
      rw [clampE hx]
    · rw [if_neg hc]
      rw [le32] at hc
      have em : (53 * x).toInt = ((53 * s : Nat) : Int) := by rw [i32mul (by rw [z53]; omega) (by rw [z53]; omega), z53, hx]; omega
      have ea : (53 * x + y).toNatClampNeg = 53 * s + k := clampE (by rw [i32add (by omega) (by omega), em, hy]; omega)
      have ky : y.toNatClampNeg = k := clampE hy
      rw [ea, ky]
      obtain ⟨ρ, e, r1, r2, r3, r4⟩ := keepL n (upA τ 1 (53 * s + k) (τ.2.1 0 k)) x (y + 1) s (k + 1) hx hs (by rw [i32add (by omega) (by omega), hy, z1]; omega) (by omega) (by omega)
      refine ⟨ρ, e, r1, fun j hj => (r2 j hj).trans (up_ne hj), fun i q1 q2 => ?_, fun i q => ?_⟩
      · by_cases q : i = k
        · subst q
          rw [r4 _ (by omega)]
          exact upd_eq (f := τ.2.1 1)
        · exact r3 i (by omega) q2
      · rw [r4 i (by omega)]
        exact upd_ne (f := τ.2.1 1) (by omega)
/-- the end of bring, on either side -/
def fin7 (σ : PS) : PS := f_X7_setY (f_X7_setX (upS (upS σ 20 (f_X7_within (Int32.toInt64 (σ.1 20)) 0 (σ.1 16))) 21 (f_X7_within (Int32.toInt64 (σ.1 21)) 0 (σ.1 16))) (Int32.toInt64 (σ.1 24))) (Int32.toInt64 ((f_X7_setX (upS (upS σ 20 (f_X7_within (Int32.toInt64 (σ.1 20)) 0 (σ.1 16))) 21 (f_X7_within (Int32.toInt64 (σ.1 21)) 0 (σ.1 16))) (Int32.toInt64 (σ.1 24))).1 25))
def fin8 (σ : PS) : PS := f_X8_setY (f_X8_setX (upA (upA σ 0 2 (f_X8_within (Int32.toInt64 (σ.2.1 0 2)) (σ.1 7))) 0 3 (f_X8_within (Int32.toInt64 (σ.2.1 0 3)) (σ.1 7))) (Int32.toInt64 (σ.2.1 0 0))) (Int32.toInt64 ((f_X8_setX (upA (upA σ 0 2 (f_X8_within (Int32.toInt64 (σ.2.1 0 2)) (σ.1 7))) 0 3 (f_X8_within (Int32.toInt64 (σ.2.1 0 3)) (σ.1 7))) (Int32.toInt64 (σ.2.1 0 0))).2.1 0 1))
theorem bringL : ∀ (n : Nat) (τ : PS) (x y : Int32) (s k : Nat), x.toInt = (s : Int) → s < 3 → y.toInt = (k : Int) → k ≤ 53 → 53 < n + k → ∃ ρ : PS, g_X8_bring_40 n τ x y = (fin8 ρ, 1) ∧ ρ.1 = τ.1 ∧ (∀ j : Nat, j ≠ 0 → ρ.2.1 j = τ.2.1 j) ∧ (∀ i : Nat, k ≤ i → i < 53 → ρ.2.1 0 i = τ.2.1 1 (53 * s + i)) ∧ (∀ i : Nat, (i < k ∨ 53 ≤ i) → ρ.2.1 0 i = τ.2.1 0 i)
  | 0, τ, x, y, s, k, hx, hs, hy, h1, h2 => absurd h2 (by omega)
  | n + 1, τ, x, y, s, k, hx, hs, hy, h1, h2 => by
    have z53 : (53 : Int32).toInt = 53 := rfl
    have z1 : (1 : Int32).toInt = 1 := rfl
    unfold g_X8_bring_40
    try dsimp only
    by_cases hc : 53 ≤ y
    · rw [if_pos hc]
      rw [le32] at hc
      exact ⟨τ, rfl, rfl, fun _ _ => rfl, fun i q1 q2 => absurd q1 (by omega), fun _ _ => rfl⟩
    · rw [if_neg hc]
      rw [le32] at hc
      have em : (53 * x).toInt = ((53 * s : Nat) : Int) := by rw [i32mul (by rw [z53]; omega) (by rw [z53]; omega), z53, hx]; omega
      have ea : (53 * x + y).toNatClampNeg = 53 * s + k := clampE (by rw [i32add (by omega) (by omega), em, hy]; omega)
      have ky : y.toNatClampNeg = k := clampE hy
      rw [ea, ky]
      obtain ⟨ρ, e, r1, r2, r3, r4⟩ := bringL n (upA τ 0 k (τ.2.1 1 (53 * s + k))) x (y + 1) s (k + 1) hx hs (by rw [i32add (by omega) (by omega), hy, z1]; omega) (by omega) (by omega)
      refine ⟨ρ, e, r1, fun j hj => (r2 j hj).trans (up_ne hj), fun i q1 q2 => ?_, fun i q => ?_⟩
      · by_cases q : i = k
        · subst q
          rw [r4 _ (by omega)]
          exact upd_eq (f := τ.2.1 0)
        · exact r3 i (by omega) q2
      · rw [r4 i (by omega)]
        exact upd_ne (f := τ.2.1 0) (by omega)
/-- the paper alone -/
def GW2 (σ μ : PS) : Prop := (μ.1 4 = σ.1 13 ∧ μ.1 5 = σ.1 14 ∧ μ.1 6 = σ.1 15 ∧ μ.1 7 = σ.1 16 ∧ μ.1 8 = σ.1 17) ∧ (σ.1 13 = 1 ∨ σ.1 13 = 2 ∨ σ.1 13 = 3 ∨ σ.1 13 = 6 ∨ σ.1 13 = 26) ∧ bd (σ.1 14) 0 3 ∧ bd (σ.1 15) 1 99 ∧ bd (σ.1 16) 10000 130000 ∧ bd (σ.1 17) 10000 130000
theorem GL.gw2 {σ μ : PS} (h : GL σ μ) : GW2 σ μ := by
  obtain ⟨a, -, -, c0, c1, c2, c3, c4, -⟩ := h
  exact ⟨a, c0, c1, c2, c3, c4⟩
theorem GL.fin0 {σ μ : PS} {l r x y : Int32} (hw : GW2 σ μ) (hk : KLx (σ.1 18) (σ.1 19) (σ.1 20) (σ.1 21) (σ.1 22) (σ.1 23) (σ.1 24) (σ.1 25) (σ.1 26) (σ.1 27) (σ.1 28) (σ.1 29) (σ.1 30) (σ.2.1 1) (σ.2.1 2) (μ.2.1 0)) (hl : bd l 0 (σ.1 16).toInt) (hr : bd r 0 (σ.1 16).toInt) (hx : bd x 0 (σ.1 16).toInt) (hy : bd y 0 (σ.1 17).toInt) : GL (upS (upS (upS (upS σ 20 l) 21 r) 24 x) 25 y) (upA (upA (upA (upA μ 0 2 l) 0 3 r) 0 0 x) 0 1 y) := by
  obtain ⟨⟨a1, a2, a3, a4, a5⟩, c0, c1, c2, c3, c4⟩ := hw
  obtain ⟨⟨b0, b1, b2, b3, b4, b5, b6, b7, b8, b9, b10, b11, b12⟩, hs, k1, k2, k3, k4, k5, k6, k7, k8, k9⟩ := hk
  exact ⟨⟨a1, a2, a3, a4, a5⟩, ⟨rfl, rfl, rfl, rfl, b4, b5, b6, b7, b8, b9, b10, b11, b12⟩, stk_up (by decide) (stk_up (by decide) (stk_up (by decide) (stk_up (by decide) hs))), c0, c1, c2, c3, c4, k1, k2, hl, hr, k3, k4, hx, hy, k5, k6, k7, k8, k9⟩
theorem GL.fin {σ μ : PS} (hw : GW2 σ μ) (hk : KLx (σ.1 18) (σ.1 19) (σ.1 20) (σ.1 21) (σ.1 22) (σ.1 23) (σ.1 24) (σ.1 25) (σ.1 26) (σ.1 27) (σ.1 28) (σ.1 29) (σ.1 30) (σ.2.1 1) (σ.2.1 2) (μ.2.1 0)) : GL (fin7 σ) (fin8 μ) := by
  have p16 : 0 ≤ (σ.1 16).toInt := by have := hw.2.2.2.2.1.1; omega
  have p17 : 0 ≤ (σ.1 17).toInt := by have := hw.2.2.2.2.2.1; omega
  have e7 : fin7 σ = upS (upS (upS (upS σ 20 (f_X8_within (Int32.toInt64 (σ.1 20)) (σ.1 16))) 21 (f_X8_within (Int32.toInt64 (σ.1 21)) (σ.1 16))) 24 (f_X8_within (Int32.toInt64 (σ.1 24)) (σ.1 16))) 25 (f_X8_within (Int32.toInt64 (σ.1 25)) (σ.1 17)) := by
    rw [← win_eq, ← win_eq, ← win_eq, ← win_eq]
    rfl
  have e8 : fin8 μ = upA (upA (upA (upA μ 0 2 (f_X8_within (Int32.toInt64 (σ.1 20)) (σ.1 16))) 0 3 (f_X8_within (Int32.toInt64 (σ.1 21)) (σ.1 16))) 0 0 (f_X8_within (Int32.toInt64 (σ.1 24)) (σ.1 16))) 0 1 (f_X8_within (Int32.toInt64 (σ.1 25)) (σ.1 17)) := by
    rw [← hk.1.1, ← hk.1.2.1, ← hk.1.2.2.1, ← hk.1.2.2.2.1, ← hw.1.2.2.2.1, ← hw.1.2.2.2.2]
    rfl
  rw [e7, e8]
  exact GL.fin0 hw hk (win_bd p16) (win_bd p16) (win_bd p16) (win_bd p17)
theorem o02 {o : Int32} (h1 : ¬ o < 0) (h2 : o ≤ 2) : (o = 0 ∨ o = 1 ∨ o = 2) ∧ o < 3 ∧ ¬ 3 ≤ o ∧ ¬ 2 < o := by
  have z0 : (0 : Int32).toInt = 0 := rfl
  have z1 : (1 : Int32).toInt = 1 := rfl
  have z2 : (2 : Int32).toInt = 2 := rfl
  have z3 : (3 : Int32).toInt = 3 := rfl
  rw [lt32] at h1
  rw [le32] at h2
  simp only [eq32, lt32, le32]
  omega
theorem n02 {o : Int32} (h2 : ¬ o ≤ 2) : ¬ o < 3 ∧ 3 ≤ o ∧ 2 < o := by
  have z2 : (2 : Int32).toInt = 2 := rfl
  have z3 : (3 : Int32).toInt = 3 := rfl
  rw [le32] at h2
  simp only [lt32, le32]
  omega
theorem j02 {j : Nat} (h : j < 3) : j = 0 ∨ j = 1 ∨ j = 2 := by omega
/-- the reference's outcome of the last call changes -/
theorem Rel.o {n : Int} {σ μ : PS} {z : Int32} (h : Rel n σ μ) : Rel n σ (upS μ 0 z) := h
theorem GK.put {σ μ σ' μ' : PS} {s : Nat} (h : GK σ μ) (hk : KS s σ' μ') (e1 : σ'.2.1 3 = upd (σ.2.1 3) s (vp_nar .boolean 1)) (e2 : μ'.2.1 2 = upd (μ.2.1 2) s (vp_nar .boolean 1)) (ho : ∀ j : Nat, j < 3 → j ≠ s → KS j σ μ → KS j σ' μ') : GK σ' μ' := GK.of fun j hj => by
  unfold K1
  rw [e1, e2]
  by_cases q : j = s
  · subst q
    rw [upd_eq, upd_eq]
    exact ⟨rfl, fun _ => hk⟩
  · rw [upd_ne q, upd_ne q]
    exact ⟨(h.at j hj).1, fun w => ho j hj q ((h.at j hj).2 w)⟩
theorem cpy20 {f g : Nat → Int32} {i : Nat} (hi : i < 20) : va_cpy f g 0 0 20 i = f i := by
  unfold va_cpy
  rw [if_pos (by omega)]
  exact congrArg f (by omega)
theorem Rel.keep0 {n : Int} {σ μ : PS} (h : Rel n σ μ) : (f_X7_keep σ 0).2 = (f_X8_keep μ 0).2 ∧ Rel n (f_X7_keep σ 0).1 (f_X8_keep μ 0).1 := by
  obtain ⟨ρ, e, r1, r2, r3, r4⟩ := keepL 54 (upS μ 0 0) 0 0 0 0 rfl (by omega) rfl (by omega) (by omega)
  have e8 : f_X8_keep μ 0 = (upA ρ 2 0 (vp_nar .boolean 1), 1) := by
    rw [← e]
    unfold f_X8_keep
    rw [if_neg (by decide), if_pos (by decide)]
  have e7 : f_X7_keep σ 0 = (upA (f_X1_copyFrom_16_3 σ) 3 0 (vp_nar .boolean 1), 1) := by
    unfold f_X7_keep
    rw [if_neg (by decide), if_pos (by decide), if_pos rfl]
    rfl
  rw [e8, e7]
  refine ⟨rfl, ?_⟩
  obtain ⟨⟨⟨hl, hs, hd⟩, ht, hk, hq, hb⟩, hp⟩ := h
  have ra : ∀ k : Nat, k ≠ 1 → k ≠ 2 → (upA ρ 2 0 (vp_nar .boolean 1)).2.1 k = μ.2.1 k := fun k q1 q2 => (up_ne q2).trans (r2 k q1)
  have rs : ∀ k : Nat, k ≠ 0 → (upA ρ 2 0 (vp_nar .boolean 1)).1 k = μ.1 k := fun k q => by
    show ρ.1 k = μ.1 k
    rw [r1]; exact up_ne q
  have z : ∀ k : Nat, k ≤ 40 → (upA (f_X1_copyFrom_16_3 σ) 3 0 (vp_nar .boolean 1)).1 k = σ.1 k := fun k q => by
    show va_up (va_up (va_up (va_up (va_up (va_up (va_up (va_up (va_up (va_up (va_up (va_up (va_up σ.1 41 _) 42 _) 43 _) 44 _) 45 _) 46 _) 47 _) 48 _) 49 _) 50 _) 51 _) 52 _) 53 _ k = σ.1 k
    rw [up_ne (by omega), up_ne (by omega), up_ne (by omega), up_ne (by omega), up_ne (by omega), up_ne (by omega), up_ne (by omega), up_ne (by omega), up_ne (by omega), up_ne (by omega), up_ne (by omega), up_ne (by omega), up_ne (by omega)]
  have za : ∀ k : Nat, k ≠ 3 → (k < 6 ∨ 11 < k) → (upA (f_X1_copyFrom_16_3 σ) 3 0 (vp_nar .boolean 1)).2.1 k = σ.2.1 k := fun k q1 q2 => by
    show va_up (va_up (va_up σ.2.1 6 _) 7 _) 3 _ k = σ.2.1 k
    rw [up_ne q1, up_ne (by omega), up_ne (by omega)]
  refine ⟨⟨⟨hl.cg (fun k q => z k (by omega)) (fun k q => za k (by omega) (by omega)) (fun k q => rs k (by omega)) (fun k q => ra k (by omega) (by omega)), hs.cg (fun k q => z k (by omega)) (fun k q => rs k (by omega)) (fun k q => ra k (by omega) (by omega)) rfl, hd.cg (fun k q => z k (by omega)) (fun k q => za k (by omega) (by omega)) (fun k q => rs k (by omega)) (fun k q => ra k (by omega) (by omega))⟩, ht.cg (za 0 (by omega) (by omega)) (ra 3 (by omega) (by omega)), ?_, hq.cg (fun k q => z k (by omega)) (fun k q => za k (by omega) (by omega)) (fun k q => rs k (by omega)) (fun k q => ra k (by omega) (by omega)), ?_⟩, hp.cg (fun k q => z k (by omega)) (fun k q => rs k (by omega)) (fun _ q => q.cg (rs 29 (by omega)) (ra 6 (by omega) (by omega)))⟩
  · have r22 := r2 2 (by decide)
    refine GK.put (s := 0) hk ?_ rfl ?_ ?_
    · exact KLx.c hl.kl (fun i hi => r3 i (by omega) hi) (fun i hi => cpy20 hi) (fun i hi => cpy20 hi)
    · show upd (ρ.2.1 2) 0 _ = _
      rw [r22]; rfl
    · intro j hj q w
      have hm : ∀ i : Nat, i < 53 → (upA ρ 2 0 (vp_nar .boolean 1)).2.1 1 (53 * j + i) = μ.2.1 1 (53 * j + i) := fun i hi => by
        show ρ.2.1 1 (53 * j + i) = _
        rw [r4 _ (by omega)]; rfl
      rcases j02 hj with rfl | rfl | rfl

      · exact absurd rfl q
      · exact KLx.c w hm (fun _ _ => rfl) (fun _ _ => rfl)
      · exact KLx.c w hm (fun _ _ => rfl) (fun _ _ => rfl)
  · show (upA ρ 2 0 (vp_nar .boolean 1)).1 22 = _
    rw [rs 22 (by omega), z 40 (by omega)]; exact hb
theorem Rel.keep1 {n : Int} {σ μ : PS} (h : Rel n σ μ) : (f_X7_keep σ 1).2 = (f_X8_keep μ 1).2 ∧ Rel n (f_X7_keep σ 1).1 (f_X8_keep μ 1).1 := by
  obtain ⟨ρ, e, r1, r2, r3, r4⟩ := keepL 54 (upS μ 0 0) 1 0 1 0 rfl (by omega) rfl (by omega) (by omega)
  have e8 : f_X8_keep μ 1 = (upA ρ 2 1 (vp_nar .boolean 1), 1) := by
    rw [← e]
    unfold f_X8_keep
    rw [if_neg (by decide), if_pos (by decide)]
  have e7 : f_X7_keep σ 1 = (upA (f_X1_copyFrom_17_3 σ) 3 1 (vp_nar .boolean 1), 1) := by
    unfold f_X7_keep
    rw [if_neg (by decide), if_pos (by decide), if_neg (by decide), if_pos rfl]
    rfl
  rw [e8, e7]
  refine ⟨rfl, ?_⟩
  obtain ⟨⟨⟨hl, hs, hd⟩, ht, hk, hq, hb⟩, hp⟩ := h
  have ra : ∀ k : Nat, k ≠ 1 → k ≠ 2 → (upA ρ 2 1 (vp_nar .boolean 1)).2.1 k = μ.2.1 k := fun k q1 q2 => (up_ne q2).trans (r2 k q1)
  have rs : ∀ k : Nat, k ≠ 0 → (upA ρ 2 1 (vp_nar .boolean 1)).1 k = μ.1 k := fun k q => by
    show ρ.1 k = μ.1 k
    rw [r1]; exact up_ne q
  have z : ∀ k : Nat, k ≤ 40 → (upA (f_X1_copyFrom_17_3 σ) 3 1 (vp_nar .boolean 1)).1 k = σ.1 k := fun k q => by
    show va_up (va_up (va_up (va_up (va_up (va_up (va_up (va_up (va_up (va_up (va_up (va_up (va_up σ.1 54 _) 55 _) 56 _) 57 _) 58 _) 59 _) 60 _) 61 _) 62 _) 63 _) 64 _) 65 _) 66 _ k = σ.1 k
    rw [up_ne (by omega), up_ne (by omega), up_ne (by omega), up_ne (by omega), up_ne (by omega), up_ne (by omega), up_ne (by omega), up_ne (by omega), up_ne (by omega), up_ne (by omega), up_ne (by omega), up_ne (by omega), up_ne (by omega)]
  have za : ∀ k : Nat, k ≠ 3 → (k < 6 ∨ 11 < k) → (upA (f_X1_copyFrom_17_3 σ) 3 1 (vp_nar .boolean 1)).2.1 k = σ.2.1 k := fun k q1 q2 => by
    show va_up (va_up (va_up σ.2.1 8 _) 9 _) 3 _ k = σ.2.1 k
    rw [up_ne q1, up_ne (by omega), up_ne (by omega)]
  refine ⟨⟨⟨hl.cg (fun k q => z k (by omega)) (fun k q => za k (by omega) (by omega)) (fun k q => rs k (by omega)) (fun k q => ra k (by omega) (by omega)), hs.cg (fun k q => z k (by omega)) (fun k q => rs k (by omega)) (fun k q => ra k (by omega) (by omega)) rfl, hd.cg (fun k q => z k (by omega)) (fun k q => za k (by omega) (by omega)) (fun k q => rs k (by omega)) (fun k q => ra k (by omega) (by omega))⟩, ht.cg (za 0 (by omega) (by omega)) (ra 3 (by omega) (by omega)), ?_, hq.cg (fun k q => z k (by omega)) (fun k q => za k (by omega) (by omega)) (fun k q => rs k (by omega)) (fun k q => ra k (by omega) (by omega)), ?_⟩, hp.cg (fun k q => z k (by omega)) (fun k q => rs k (by omega)) (fun _ q => q.cg (rs 29 (by omega)) (ra 6 (by omega) (by omega)))⟩
  · have r22 := r2 2 (by decide)
    refine GK.put (s := 1) hk ?_ rfl ?_ ?_
    · exact KLx.c hl.kl (fun i hi => r3 i (by omega) hi) (fun i hi => cpy20 hi) (fun i hi => cpy20 hi)
    · show upd (ρ.2.1 2) 1 _ = _
      rw [r22]; rfl
    · intro j hj q w
      have hm : ∀ i : Nat, i < 53 → (upA ρ 2 1 (vp_nar .boolean 1)).2.1 1 (53 * j + i) = μ.2.1 1 (53 * j + i) := fun i hi => by
        show ρ.2.1 1 (53 * j + i) = _
        rw [r4 _ (by omega)]; rfl
      rcases j02 hj with rfl | rfl | rfl

      · exact KLx.c w hm (fun _ _ => rfl) (fun _ _ => rfl)
      · exact absurd rfl q
      · exact KLx.c w hm (fun _ _ => rfl) (fun _ _ => rfl)
  · show (upA ρ 2 1 (vp_nar .boolean 1)).1 22 = _
    rw [rs 22 (by omega), z 40 (by omega)]; exact hb
theorem Rel.keep2 {n : Int} {σ μ : PS} (h : Rel n σ μ) : (f_X7_keep σ 2).2 = (f_X8_keep μ 2).2 ∧ Rel n (f_X7_keep σ 2).1 (f_X8_keep μ 2).1 := by
  obtain ⟨ρ, e, r1, r2, r3, r4⟩ := keepL 54 (upS μ 0 0) 2 0 2 0 rfl (by omega) rfl (by omega) (by omega)
  have e8 : f_X8_keep μ 2 = (upA ρ 2 2 (vp_nar .boolean 1), 1) := by
    rw [← e]
    unfold f_X8_keep
    rw [if_neg (by decide), if_pos (by decide)]
  have e7 : f_X7_keep σ 2 = (upA (f_X1_copyFrom_18_3 σ) 3 2 (vp_nar .boolean 1), 1) := by
    unfold f_X7_keep
    rw [if_neg (by decide), if_pos (by decide), if_neg (by decide), if_neg (by decide)]
    rfl
  rw [e8, e7]
  refine ⟨rfl, ?_⟩
  obtain ⟨⟨⟨hl, hs, hd⟩, ht, hk, hq, hb⟩, hp⟩ := h
  have ra : ∀ k : Nat, k ≠ 1 → k ≠ 2 → (upA ρ 2 2 (vp_nar .boolean 1)).2.1 k = μ.2.1 k := fun k q1 q2 => (up_ne q2).trans (r2 k q1)
  have rs : ∀ k : Nat, k ≠ 0 → (upA ρ 2 2 (vp_nar .boolean 1)).1 k = μ.1 k := fun k q => by
    show ρ.1 k = μ.1 k
    rw [r1]; exact up_ne q
  have z : ∀ k : Nat, k ≤ 40 → (upA (f_X1_copyFrom_18_3 σ) 3 2 (vp_nar .boolean 1)).1 k = σ.1 k := fun k q => by
    show va_up (va_up (va_up (va_up (va_up (va_up (va_up (va_up (va_up (va_up (va_up (va_up (va_up σ.1 67 _) 68 _) 69 _) 70 _) 71 _) 72 _) 73 _) 74 _) 75 _) 76 _) 77 _) 78 _) 79 _ k = σ.1 k
    rw [up_ne (by omega), up_ne (by omega), up_ne (by omega), up_ne (by omega), up_ne (by omega), up_ne (by omega), up_ne (by omega), up_ne (by omega), up_ne (by omega), up_ne (by omega), up_ne (by omega), up_ne (by omega), up_ne (by omega)]
  have za : ∀ k : Nat, k ≠ 3 → (k < 6 ∨ 11 < k) → (upA (f_X1_copyFrom_18_3 σ) 3 2 (vp_nar .boolean 1)).2.1 k = σ.2.1 k := fun k q1 q2 => by
    show va_up (va_up (va_up σ.2.1 10 _) 11 _) 3 _ k = σ.2.1 k
    rw [up_ne q1, up_ne (by omega), up_ne (by omega)]
  refine ⟨⟨⟨hl.cg (fun k q => z k (by omega)) (fun k q => za k (by omega) (by omega)) (fun k q => rs k (by omega)) (fun k q => ra k (by omega) (by omega)), hs.cg (fun k q => z k (by omega)) (fun k q => rs k (by omega)) (fun k q => ra k (by omega) (by omega)) rfl, hd.cg (fun k q => z k (by omega)) (fun k q => za k (by omega) (by omega)) (fun k q => rs k (by omega)) (fun k q => ra k (by omega) (by omega))⟩, ht.cg (za 0 (by omega) (by omega)) (ra 3 (by omega) (by omega)), ?_, hq.cg (fun k q => z k (by omega)) (fun k q => za k (by omega) (by omega)) (fun k q => rs k (by omega)) (fun k q => ra k (by omega) (by omega)), ?_⟩, hp.cg (fun k q => z k (by omega)) (fun k q => rs k (by omega)) (fun _ q => q.cg (rs 29 (by omega)) (ra 6 (by omega) (by omega)))⟩
  · have r22 := r2 2 (by decide)
    refine GK.put (s := 2) hk ?_ rfl ?_ ?_
    · exact KLx.c hl.kl (fun i hi => r3 i (by omega) hi) (fun i hi => cpy20 hi) (fun i hi => cpy20 hi)
    · show upd (ρ.2.1 2) 2 _ = _
      rw [r22]; rfl
    · intro j hj q w
      have hm : ∀ i : Nat, i < 53 → (upA ρ 2 2 (vp_nar .boolean 1)).2.1 1 (53 * j + i) = μ.2.1 1 (53 * j + i) := fun i hi => by
        show ρ.2.1 1 (53 * j + i) = _
        rw [r4 _ (by omega)]; rfl
      rcases j02 hj with rfl | rfl | rfl

      · exact KLx.c w hm (fun _ _ => rfl) (fun _ _ => rfl)
      · exact KLx.c w hm (fun _ _ => rfl) (fun _ _ => rfl)
      · exact absurd rfl q
  · show (upA ρ 2 2 (vp_nar .boolean 1)).1 22 = _
    rw [rs 22 (by omega), z 40 (by omega)]; exact hb
theorem Rel.keep {n : Int} {σ μ : PS} {x : Int32} (h : Rel n σ μ) : (f_X7_keep σ x).2 = (f_X8_keep μ x).2 ∧ Rel n (f_X7_keep σ x).1 (f_X8_keep μ x).1 := by
  by_cases c1 : x < 0
  · unfold f_X7_keep f_X8_keep
    rw [if_pos c1, if_pos c1]
    exact ⟨rfl, h⟩
  by_cases c2 : x ≤ 2
  · rcases (o02 c1 c2).1 with rfl | rfl | rfl
    · exact h.keep0
    · exact h.keep1
    · exact h.keep2
  · unfold f_X7_keep f_X8_keep
    rw [if_neg c1, if_neg c1, if_neg c2, if_neg (n02 c2).1]
    exact ⟨rfl, h⟩
theorem Rel.bring0 {n : Int} {σ μ : PS} (h : Rel n σ μ) : (f_X7_bring σ 0).2 = (f_X8_bring μ 0).2 ∧ Rel n (f_X7_bring σ 0).1 (f_X8_bring μ 0).1 := by
  have h0 := h
  obtain ⟨⟨⟨hl, hs, hd⟩, ht, hk, hq, hb⟩, hp⟩ := h
  obtain ⟨g1, g2⟩ := hk.at 0 (by omega)
  unfold f_X7_bring f_X8_bring
  try dsimp only
  rw [if_neg (show ¬ (0 : Int32) < 0 by decide), if_neg (show ¬ (3 : Int32) ≤ 0 by decide), if_neg (show ¬ (0 : Int32) < 0 by decide), if_neg (show ¬ (2 : Int32) < 0 by decide), if_neg (show ¬ (0 : Int32) < 0 by decide), if_pos (show (0 : Int32) ≤ 2 by decide)]
  have kc : Int32.toNatClampNeg 0 = 0 := by decide
  rw [kc, g1]
  by_cases c : σ.2.1 3 0 = 0
  · rw [if_pos c, if_pos c]
    exact ⟨rfl, h0⟩
  rw [if_neg c, if_neg c]
  obtain ⟨ρ, e, r1, r2, r3, r4⟩ := bringL 54 (upS μ 0 0) 0 0 0 0 rfl (by omega) rfl (by omega) (by omega)
  rw [e, if_pos rfl]
  show 1 = 1 ∧ Rel n (fin7 (f_X1_copyFrom_3_16 σ)) (fin8 ρ)
  refine ⟨rfl, ?_⟩
  have ra : ∀ k : Nat, k ≠ 0 → (fin8 ρ).2.1 k = μ.2.1 k := fun k q => by
    show va_up (va_up (va_up (va_up ρ.2.1 0 _) 0 _) 0 _) 0 _ k = μ.2.1 k
    rw [up_ne q, up_ne q, up_ne q, up_ne q]
    exact r2 k q
  have rs : ∀ k : Nat, k ≠ 0 → (fin8 ρ).1 k = μ.1 k := fun k q => by
    show ρ.1 k = μ.1 k
    rw [r1]; exact up_ne q
  have z : ∀ k : Nat, (k < 18 ∨ 30 < k) → (fin7 (f_X1_copyFrom_3_16 σ)).1 k = σ.1 k := fun k q => by
    show va_up (va_up (va_up (va_up (va_up (va_up (va_up (va_up (va_up (va_up (va_up (va_up (va_up (va_up (va_up (va_up (va_up σ.1 18 _) 19 _) 20 _) 21 _) 22 _) 23 _) 24 _) 25 _) 26 _) 27 _) 28 _) 29 _) 30 _) 20 _) 21 _) 24 _) 25 _ k = σ.1 k
    rw [up_ne (by omega), up_ne (by omega), up_ne (by omega), up_ne (by omega), up_ne (by omega), up_ne (by omega), up_ne (by omega), up_ne (by omega), up_ne (by omega), up_ne (by omega), up_ne (by omega), up_ne (by omega), up_ne (by omega), up_ne (by omega), up_ne (by omega), up_ne (by omega), up_ne (by omega)]
  have za : ∀ k : Nat, k ≠ 1 → k ≠ 2 → (fin7 (f_X1_copyFrom_3_16 σ)).2.1 k = σ.2.1 k := fun k q1 q2 => by
    show va_up (va_up σ.2.1 1 _) 2 _ k = σ.2.1 k
    rw [up_ne q2, up_ne q1]
  refine ⟨⟨⟨GL.fin ?_ ?_, hs.cg (fun k q => z k (by omega)) (fun k q => rs k (by omega)) (fun k q => ra k (by omega)) rfl, hd.cg (fun k q => z k (by omega)) (fun k q => za k (by omega) (by omega)) (fun k q => rs k (by omega)) (fun k q => ra k (by omega))⟩, ht.cg (za 0 (by omega) (by omega)) (ra 3 (by omega)), hk.cg (fun k q => z k (by omega)) (fun k q => za k (by omega) (by omega)) (fun k q => ra k (by omega)), hq.cg (fun k q => z k (by omega)) (fun k q => za k (by omega) (by omega)) (fun k q => rs k (by omega)) (fun k q => ra k (by omega)), ?_⟩, hp.cg (fun k q => z k (by omega)) (fun k q => rs k (by omega)) (fun _ q => q.cg (rs 29 (by omega)) (ra 6 (by omega)))⟩
  · have hw := hl.gw2
    unfold GW2 at hw ⊢
    rw [r1]
    exact hw
  · exact KLx.c (g2 c) (fun i hi => r3 i (by omega) hi) (fun i hi => cpy20 hi) (fun i hi => cpy20 hi)
  · show (fin8 ρ).1 22 = _
    rw [rs 22 (by omega), z 40 (by omega)]; exact hb
theorem Rel.bring1 {n : Int} {σ μ : PS} (h : Rel n σ μ) : (f_X7_bring σ 1).2 = (f_X8_bring μ 1).2 ∧ Rel n (f_X7_bring σ 1).1 (f_X8_bring μ 1).1 := by
  have h0 := h
  obtain ⟨⟨⟨hl, hs, hd⟩, ht, hk, hq, hb⟩, hp⟩ := h
  obtain ⟨g1, g2⟩ := hk.at 1 (by omega)
  unfold f_X7_bring f_X8_bring
  try dsimp only
  rw [if_neg (show ¬ (1 : Int32) < 0 by decide), if_neg (show ¬ (3 : Int32) ≤ 1 by decide), if_neg (show ¬ (1 : Int32) < 0 by decide), if_neg (show ¬ (2 : Int32) < 1 by decide), if_neg (show ¬ (1 : Int32) < 0 by decide), if_pos (show (1 : Int32) ≤ 2 by decide)]
  have kc : Int32.toNatClampNeg 1 = 1 := by decide
  rw [kc, g1]
  by_cases c : σ.2.1 3 1 = 0
  · rw [if_pos c, if_pos c]
    exact ⟨rfl, h0⟩
  rw [if_neg c, if_neg c]
  obtain ⟨ρ, e, r1, r2, r3, r4⟩ := bringL 54 (upS μ 0 0) 1 0 1 0 rfl (by omega) rfl (by omega) (by omega)
  rw [e, if_neg (show ¬ (1 : Int32) = 0 by decide), if_pos rfl]
  show 1 = 1 ∧ Rel n (fin7 (f_X1_copyFrom_3_17 σ)) (fin8 ρ)
  refine ⟨rfl, ?_⟩
  have ra : ∀ k : Nat, k ≠ 0 → (fin8 ρ).2.1 k = μ.2.1 k := fun k q => by
    show va_up (va_up (va_up (va_up ρ.2.1 0 _) 0 _) 0 _) 0 _ k = μ.2.1 k
    rw [up_ne q, up_ne q, up_ne q, up_ne q]
    exact r2 k q
  have rs : ∀ k : Nat, k ≠ 0 → (fin8 ρ).1 k = μ.1 k := fun k q => by
    show ρ.1 k = μ.1 k
    rw [r1]; exact up_ne q
  have z : ∀ k : Nat, (k < 18 ∨ 30 < k) → (fin7 (f_X1_copyFrom_3_17 σ)).1 k = σ.1 k := fun k q => by
    show va_up (va_up (va_up (va_up (va_up (va_up (va_up (va_up (va_up (va_up (va_up (va_up (va_up (va_up (va_up (va_up (va_up σ.1 18 _) 19 _) 20 _) 21 _) 22 _) 23 _) 24 _) 25 _) 26 _) 27 _) 28 _) 29 _) 30 _) 20 _) 21 _) 24 _) 25 _ k = σ.1 k
    rw [up_ne (by omega), up_ne (by omega), up_ne (by omega), up_ne (by omega), up_ne (by omega), up_ne (by omega), up_ne (by omega), up_ne (by omega), up_ne (by omega), up_ne (by omega), up_ne (by omega), up_ne (by omega), up_ne (by omega), up_ne (by omega), up_ne (by omega), up_ne (by omega), up_ne (by omega)]
  have za : ∀ k : Nat, k ≠ 1 → k ≠ 2 → (fin7 (f_X1_copyFrom_3_17 σ)).2.1 k = σ.2.1 k := fun k q1 q2 => by
    show va_up (va_up σ.2.1 1 _) 2 _ k = σ.2.1 k
    rw [up_ne q2, up_ne q1]
  refine ⟨⟨⟨GL.fin ?_ ?_, hs.cg (fun k q => z k (by omega)) (fun k q => rs k (by omega)) (fun k q => ra k (by omega)) rfl, hd.cg (fun k q => z k (by omega)) (fun k q => za k (by omega) (by omega)) (fun k q => rs k (by omega)) (fun k q => ra k (by omega))⟩, ht.cg (za 0 (by omega) (by omega)) (ra 3 (by omega)), hk.cg (fun k q => z k (by omega)) (fun k q => za k (by omega) (by omega)) (fun k q => ra k (by omega)), hq.cg (fun k q => z k (by omega)) (fun k q => za k (by omega) (by omega)) (fun k q => rs k (by omega)) (fun k q => ra k (by omega)), ?_⟩, hp.cg (fun k q => z k (by omega)) (fun k q => rs k (by omega)) (fun _ q => q.cg (rs 29 (by omega)) (ra 6 (by omega)))⟩
  · have hw := hl.gw2
    unfold GW2 at hw ⊢
    rw [r1]
    exact hw
  · exact KLx.c (g2 c) (fun i hi => r3 i (by omega) hi) (fun i hi => cpy20 hi) (fun i hi => cpy20 hi)
  · show (fin8 ρ).1 22 = _
    rw [rs 22 (by omega), z 40 (by omega)]; exact hb
theorem Rel.bring2 {n : Int} {σ μ : PS} (h : Rel n σ μ) : (f_X7_bring σ 2).2 = (f_X8_bring μ 2).2 ∧ Rel n (f_X7_bring σ 2).1 (f_X8_bring μ 2).1 := by
  have h0 := h
  obtain ⟨⟨⟨hl, hs, hd⟩, ht, hk, hq, hb⟩, hp⟩ := h
  obtain ⟨g1, g2⟩ := hk.at 2 (by omega)
  unfold f_X7_bring f_X8_bring
  try dsimp only
  rw [if_neg (show ¬ (2 : Int32) < 0 by decide), if_neg (show ¬ (3 : Int32) ≤ 2 by decide), if_neg (show ¬ (2 : Int32) < 0 by decide), if_neg (show ¬ (2 : Int32) < 2 by decide), if_neg (show ¬ (2 : Int32) < 0 by decide), if_pos (show (2 : Int32) ≤ 2 by decide)]
  have kc : Int32.toNatClampNeg 2 = 2 := by decide
  rw [kc, g1]
  by_cases c : σ.2.1 3 2 = 0
  · rw [if_pos c, if_pos c]
    exact ⟨rfl, h0⟩
  rw [if_neg c, if_neg c]
  obtain ⟨ρ, e, r1, r2, r3, r4⟩ := bringL 54 (upS μ 0 0) 2 0 2 0 rfl (by omega) rfl (by omega) (by omega)
  rw [e, if_neg (show ¬ (2 : Int32) = 0 by decide), if_neg (show ¬ (2 : Int32) = 1 by decide)]
  show 1 = 1 ∧ Rel n (fin7 (f_X1_copyFrom_3_18 σ)) (fin8 ρ)
  refine ⟨rfl, ?_⟩
  have ra : ∀ k : Nat, k ≠ 0 → (fin8 ρ).2.1 k = μ.2.1 k := fun k q => by
    show va_up (va_up (va_up (va_up ρ.2.1 0 _) 0 _) 0 _) 0 _ k = μ.2.1 k
    rw [up_ne q, up_ne q, up_ne q, up_ne q]
    exact r2 k q
  have rs : ∀ k : Nat, k ≠ 0 → (fin8 ρ).1 k = μ.1 k := fun k q => by
    show ρ.1 k = μ.1 k
    rw [r1]; exact up_ne q
  have z : ∀ k : Nat, (k < 18 ∨ 30 < k) → (fin7 (f_X1_copyFrom_3_18 σ)).1 k = σ.1 k := fun k q => by
    show va_up (va_up (va_up (va_up (va_up (va_up (va_up (va_up (va_up (va_up (va_up (va_up (va_up (va_up (va_up (va_up (va_up σ.1 18 _) 19 _) 20 _) 21 _) 22 _) 23 _) 24 _) 25 _) 26 _) 27 _) 28 _) 29 _) 30 _) 20 _) 21 _) 24 _) 25 _ k = σ.1 k
    rw [up_ne (by omega), up_ne (by omega), up_ne (by omega), up_ne (by omega), up_ne (by omega), up_ne (by omega), up_ne (by omega), up_ne (by omega), up_ne (by omega), up_ne (by omega), up_ne (by omega), up_ne (by omega), up_ne (by omega), up_ne (by omega), up_ne (by omega), up_ne (by omega), up_ne (by omega)]
  have za : ∀ k : Nat, k ≠ 1 → k ≠ 2 → (fin7 (f_X1_copyFrom_3_18 σ)).2.1 k = σ.2.1 k := fun k q1 q2 => by
    show va_up (va_up σ.2.1 1 _) 2 _ k = σ.2.1 k
    rw [up_ne q2, up_ne q1]
  refine ⟨⟨⟨GL.fin ?_ ?_, hs.cg (fun k q => z k (by omega)) (fun k q => rs k (by omega)) (fun k q => ra k (by omega)) rfl, hd.cg (fun k q => z k (by omega)) (fun k q => za k (by omega) (by omega)) (fun k q => rs k (by omega)) (fun k q => ra k (by omega))⟩, ht.cg (za 0 (by omega) (by omega)) (ra 3 (by omega)), hk.cg (fun k q => z k (by omega)) (fun k q => za k (by omega) (by omega)) (fun k q => ra k (by omega)), hq.cg (fun k q => z k (by omega)) (fun k q => za k (by omega) (by omega)) (fun k q => rs k (by omega)) (fun k q => ra k (by omega)), ?_⟩, hp.cg (fun k q => z k (by omega)) (fun k q => rs k (by omega)) (fun _ q => q.cg (rs 29 (by omega)) (ra 6 (by omega)))⟩
  · have hw := hl.gw2
    unfold GW2 at hw ⊢
    rw [r1]
    exact hw
  · exact KLx.c (g2 c) (fun i hi => r3 i (by omega) hi) (fun i hi => cpy20 hi) (fun i hi => cpy20 hi)
  · show (fin8 ρ).1 22 = _
    rw [rs 22 (by omega), z 40 (by omega)]; exact hb
theorem Rel.bring {n : Int} {σ μ : PS} {x : Int32} (h : Rel n σ μ) : (f_X7_bring σ x).2 = (f_X8_bring μ x).2 ∧ Rel n (f_X7_bring σ x).1 (f_X8_bring μ x).1 := by
  by_cases c1 : x < 0
  · unfold f_X7_bring f_X8_bring
    rw [if_pos c1, if_pos c1]
    exact ⟨rfl, h⟩
  by_cases c2 : x ≤ 2
  · rcases (o02 c1 c2).1 with rfl | rfl | rfl
    · exact h.bring0
    · exact h.bring1
    · exact h.bring2
  · unfold f_X7_bring f_X8_bring
    rw [if_neg c1, if_neg c1, if_pos (n02 c2).2.1, if_pos (n02 c2).2.2]
    exact ⟨rfl, h⟩
theorem Rel.due {n : Int} {σ μ : PS} (h : Rel n σ μ) : Rel n (f_X7_due σ) (f_X8_due μ) := by
  obtain ⟨⟨⟨hl, ⟨⟨s1, s2, s3, s4⟩, s5, s6⟩, hd⟩, ht, hk, hq, hb⟩, hp⟩ := h
  exact ⟨⟨⟨hl, ⟨⟨s1, s2, s3, rfl⟩, s5, s6⟩, hd⟩, ht, hk, hq, hb⟩, hp⟩
theorem Rel.move {n : Int} {σ μ : PS} {x y : Int32} (h : Rel n σ μ) : Rel n (f_X7_move σ x y) (f_X8_move μ x y) := by
  obtain ⟨⟨⟨hl, hs, hd⟩, ht, hk, hq, hb⟩, hp⟩ := h
  have hl2 : GL σ (upS μ 0 0) := hl
  exact ⟨⟨⟨(hl2.setX rfl).setY rfl, hs, hd⟩, ht, hk, hq, hb⟩, hp⟩
theorem GT.put {σ μ : PS} {i : Nat} {v : Int32} (h : GT σ μ) (hv : bd v (-1) 20000) : GT (upA σ 0 i v) (upA μ 3 i v) := fun j hj => by
  show upd (σ.2.1 0) i v j = upd (μ.2.1 3) i v j ∧ bd (upd (σ.2.1 0) i v j) (-1) 20000
  by_cases q : j = i
  · subst q
    rw [upd_eq, upd_eq]
    exact ⟨rfl, hv⟩
  · rw [upd_ne q, upd_ne q]
    exact h j hj
theorem Rel.advance {n : Int} {σ μ : PS} {x y z : Int32} (h : Rel n σ μ) : (f_X7_advance σ x y z).2 = (f_X8_advance μ x y z).2 ∧ Rel n (f_X7_advance σ x y z).1 (f_X8_advance μ x y z).1 := by
  have bad : ((σ, (0 : Int32)) : PS × Int32).2 = ((upS μ 0 0, (0 : Int32)) : PS × Int32).2 ∧ Rel n ((σ, (0 : Int32)) : PS × Int32).1 ((upS μ 0 0, (0 : Int32)) : PS × Int32).1 := ⟨rfl, h⟩
  unfold f_X7_advance f_X8_advance
  by_cases c1 : x < 0
  · rw [if_pos c1, if_pos c1]; exact bad
  rw [if_neg c1, if_neg c1]
  by_cases c2 : 1 < x
  · rw [if_pos c2, if_pos c2]; exact bad
  rw [if_neg c2, if_neg c2]
  by_cases c3 : y < 0
  · rw [if_pos c3, if_pos c3]; exact bad
  rw [if_neg c3, if_neg c3]
  have e : (256 : Int32) ≤ y ↔ 255 < y := by
    have z1 : (255 : Int32).toInt = 255 := rfl
    have z2 : (256 : Int32).toInt = 256 := rfl
    rw [le32, lt32]
    omega
  by_cases c4 : 255 < y
  · rw [if_pos c4, if_pos (e.mpr c4)]; exact bad
  rw [if_neg c4, if_neg (fun q => c4 (e.mp q))]
  by_cases c5 : z < -1
  · rw [if_pos c5, if_pos c5]; exact bad
  rw [if_neg c5, if_neg c5]
  by_cases c6 : z ≤ 20000
  · rw [if_pos c6, if_pos c6]
    refine ⟨rfl, ?_⟩
    obtain ⟨⟨hpp, ht, hr⟩, hp⟩ := h
    rw [show x * 256 + y = 256 * x + y by rw [Int32.mul_comm]]
    have zm : (-1 : Int32).toInt = -1 := rfl
    have z2 : (20000 : Int32).toInt = 20000 := rfl
    rw [lt32] at c5
    rw [le32] at c6
    have ht2 : GT σ (upS μ 0 0) := ht
    exact ⟨⟨hpp, ht2.put ⟨by omega, by omega⟩, hr⟩, hp⟩
  · rw [if_neg c6, if_neg c6]; exact bad
theorem Rel.take {n : Int} {σ μ : PS} (h : Rel n σ μ) : (f_X7_take σ).2 = (f_X8_take μ).2 ∧ Rel n (f_X7_take σ).1 (f_X8_take μ).1 := by
  obtain ⟨⟨⟨hl, hs, hd⟩, ht, hk, hq, hb⟩, hp⟩ := h
  obtain ⟨q1, q2, q3, f7, f8⟩ := hq.take
  refine ⟨q1, ⟨⟨hl.cg (fun k q => f7.1 k (by omega)) (fun k q => by rw [f7.2]) (fun k q => f8.1 k (by omega)) (fun k q => f8.2 k (by omega)), hs.cg (fun k q => f7.1 k (by omega)) (fun k q => f8.1 k (by omega)) (fun k q => f8.2 k (by omega)) (by rw [f7.2]), hd.cg (fun k q => f7.1 k (by omega)) (fun k q => by rw [f7.2]) (fun k q => f8.1 k (by omega)) (fun k q => f8.2 k (by omega))⟩, ht.cg (by rw [f7.2]) (f8.2 3 (by omega)), hk.cg (fun k q => f7.1 k (by omega)) (fun k q => by rw [f7.2]) (fun k q => f8.2 k (by omega)), q2, ?_⟩, hp.cg (fun k q => f7.1 k (by omega)) (fun k q => f8.1 k (by omega)) (fun c q => q3 _ ?_ q)⟩
  · show (f_X8_take μ).1.1 22 = (f_X7_take σ).1.1 40
    rw [f7.1 40 (by omega), f8.1 22 (by omega)]; exact hb
  · have := hp.2.1.2.1.1
    have z0 : (0 : Int32).toInt = 0 := rfl
    rw [eq32] at c
    omega
