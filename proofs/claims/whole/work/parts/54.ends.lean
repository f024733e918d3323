/-! the pure relation, part 15: a command ends -/
def sgn (pl mi : Int32) : Int32 := if pl = 0 then (if mi = 0 then 0 else 1) else 1
def vlu (mi wh fr : Int32) : Int32 := if mi = 0 then wh * 10000 + fr else -(wh * 10000 + fr)
def dle (fam grp e mi wh : Int32) : Int32 := if (e = 87 ∨ TXx fam grp e) ∧ mi = 0 then wh else 0
theorem txE {τ : PS} : f_X5_hasText τ = if TXx (τ.1 0) (τ.1 1) (τ.1 3) then 1 else 0 := by
  unfold f_X5_hasText
  by_cases k1 : τ.1 0 = 38
  · by_cases k2 : τ.1 1 = 112
    · by_cases k3 : τ.1 3 = 88
      · rw [if_pos k1, if_pos k2, if_pos k3, if_pos ⟨k1, k2, k3⟩]
      · rw [if_pos k1, if_pos k2, if_neg k3, if_neg (show ¬ TXx _ _ _ from fun q => k3 q.2.2)]
    · rw [if_pos k1, if_neg k2, if_neg (show ¬ TXx _ _ _ from fun q => k2 q.2.1)]
  · rw [if_neg k1, if_neg (show ¬ TXx _ _ _ from fun q => k1 q.1)]
theorem endT {τ : PS} {e : Int32} (he : τ.1 3 = e) : (if e = 87 then g_X5_endField_76 τ else if f_X5_hasText τ = 0 then g_X5_endField_90 τ else g_X5_endField_76 τ) = f_X5_beginField (upS τ 5 (dle (τ.1 0) (τ.1 1) e (τ.1 9) (τ.1 10))) := by
  have e76 : g_X5_endField_76 τ = f_X5_beginField (upS τ 5 (if τ.1 9 = 0 then τ.1 10 else 0)) := by
    unfold g_X5_endField_76 g_X5_endField_90
    try dsimp only
    split <;> rfl
  have e90 : g_X5_endField_90 τ = f_X5_beginField (upS τ 5 0) := rfl
  rw [e76, e90, txE, he]
  unfold dle
  by_cases k1 : e = 87
  · rw [if_pos k1]
    by_cases k2 : τ.1 9 = 0
    · rw [if_pos k2, if_pos ⟨Or.inl k1, k2⟩]
    · rw [if_neg k2, if_neg (show ¬ ((e = 87 ∨ TXx (τ.1 0) (τ.1 1) e) ∧ τ.1 9 = 0) from fun q => k2 q.2)]
  · rw [if_neg k1]
    by_cases k3 : TXx (τ.1 0) (τ.1 1) e
    · rw [if_pos k3, if_neg one_ne]
      by_cases k2 : τ.1 9 = 0
      · rw [if_pos k2, if_pos ⟨Or.inr k3, k2⟩]
      · rw [if_neg k2, if_neg (show ¬ ((e = 87 ∨ TXx (τ.1 0) (τ.1 1) e) ∧ τ.1 9 = 0) from fun q => k2 q.2)]
    · rw [if_neg k3, if_pos rfl, if_neg (show ¬ ((e = 87 ∨ TXx (τ.1 0) (τ.1 1) e) ∧ τ.1 9 = 0) from fun q => q.1.elim k1 k3)]
/-- the program's state behind the end of a field -/
def sE (σ : PS) (e : Int32) : PS := f_X5_beginField (upS (upS (upS (upS σ 2 (vlu (σ.1 9) (σ.1 10) (σ.1 11))) 4 (sgn (σ.1 8) (σ.1 9))) 3 e) 5 (dle (σ.1 0) (σ.1 1) e (σ.1 9) (σ.1 10)))
theorem endE {σ : PS} {e : Int32} : f_X5_endField σ e = sE σ e := by
  have h46 : ∀ v : Int32, g_X5_endField_46 (upS σ 2 v) e = f_X5_beginField (upS (upS (upS (upS σ 2 v) 4 1) 3 e) 5 (dle (σ.1 0) (σ.1 1) e (σ.1 9) (σ.1 10))) := fun v => endT (τ := upS (upS (upS σ 2 v) 4 1) 3 e) rfl
  have h28 : ∀ v : Int32, g_X5_endField_28 σ e v = f_X5_beginField (upS (upS (upS (upS σ 2 v) 4 (sgn (σ.1 8) (σ.1 9))) 3 e) 5 (dle (σ.1 0) (σ.1 1) e (σ.1 9) (σ.1 10))) := fun v => by
    unfold g_X5_endField_28
    rw [h46]
    unfold sgn
    by_cases k8 : σ.1 8 = 0
    · by_cases k9 : σ.1 9 = 0
      · rw [if_pos k8, if_pos k9, if_pos k8, if_pos k9]
        exact endT (τ := upS (upS (upS σ 2 v) 4 0) 3 e) rfl
      · rw [if_pos k8, if_neg k9, if_pos k8, if_neg k9]
    · rw [if_neg k8, if_neg k8]
  unfold f_X5_endField sE vlu
  try dsimp only
  rw [h28, h28]
  split <;> rfl
theorem valS {n : Nat} {μ : PS} {y1 y2 : Int32} (h : ¬ 4 ≤ y2) : g_X8_value_10 (n + 1) μ y1 y2 = g_X8_value_10 n μ (y1 * 10) (y2 + 1) := by
  rw [g_X8_value_10.eq_2]
  rw [if_neg h]
theorem valT {n : Nat} {μ : PS} {y1 : Int32} : g_X8_value_10 (n + 1) μ y1 4 = if μ.1 15 = 0 then (y1 + 10000 * μ.1 16) else -(y1 + 10000 * μ.1 16) := by
  rw [g_X8_value_10.eq_2]
  rw [if_pos (by decide)]
theorem valE {σ μ : PS} (h : GF σ μ) : f_X8_value μ = vlu (σ.1 9) (σ.1 10) (σ.1 11) := by
  obtain ⟨⟨w1, w2⟩, ⟨s1, s2, s3⟩, -, -, hc⟩ := h
  have fin : ∀ y : Int32, y = σ.1 11 → (if μ.1 15 = 0 then (y + 10000 * μ.1 16) else -(y + 10000 * μ.1 16)) = vlu (σ.1 9) (σ.1 10) (σ.1 11) := fun y hy => by
    unfold vlu
    rw [hy, s1, w1, Int32.mul_comm 10000, Int32.add_comm (σ.1 11)]
  have m10 : ∀ {y : Int32}, 0 ≤ y.toInt → y.toInt ≤ 9999 → (y * 10).toInt = 10 * y.toInt := fun q1 q2 => by
    rw [i32mul (by rw [n10]; omega) (by rw [n10]; omega), n10]; omega
  unfold f_X8_value
  try dsimp only
  rcases hc with ⟨p1, p2, p3, p4⟩ | ⟨p1, p2, p3, p4⟩ | ⟨p1, p2, p3, p4⟩ | ⟨p1, p2, p3, p4⟩ | ⟨p1, p2, p3, p4⟩
  · rw [p1, p3, valS (by decide), valS (by decide), valS (by decide), valS (by decide)]
    show g_X8_value_10 1 μ (0 * 10 * 10 * 10 * 10) 4 = _
    rw [valT]
    refine fin _ ?_
    rw [p4]; decide
  · obtain ⟨q1, q2⟩ := p3
    rw [p1, valS (by decide), valS (by decide), valS (by decide)]
    show g_X8_value_10 2 μ (μ.1 17 * 10 * 10 * 10) 4 = _
    rw [valT]
    refine fin _ (i32ext ?_)
    have a1 := m10 (y := μ.1 17) (by omega) (by omega)
    have a2 := m10 (y := μ.1 17 * 10) (by omega) (by omega)
    have a3 := m10 (y := μ.1 17 * 10 * 10) (by omega) (by omega)
    omega
  · obtain ⟨q1, q2⟩ := p3
    rw [p1, valS (by decide), valS (by decide)]
    show g_X8_value_10 3 μ (μ.1 17 * 10 * 10) 4 = _
    rw [valT]
    refine fin _ (i32ext ?_)
    have a1 := m10 (y := μ.1 17) (by omega) (by omega)
    have a2 := m10 (y := μ.1 17 * 10) (by omega) (by omega)
    omega
  · obtain ⟨q1, q2⟩ := p3
    rw [p1, valS (by decide)]
    show g_X8_value_10 4 μ (μ.1 17 * 10) 4 = _
    rw [valT]
    refine fin _ (i32ext ?_)
    have a1 := m10 (y := μ.1 17) (by omega) (by omega)
    omega
  · rw [p1, valT]
    exact fin _ (i32ext p4.symm)
theorem c115E {τ : PS} {y : Int32} : g_X8_command_115 τ y = upS (f_X8_beginField τ) 10 (if τ.1 19 ≤ 0 then (if y = 0 then 3 else 0) else 4) := by
  unfold g_X8_command_115
  try dsimp only
  show (if τ.1 19 ≤ 0 then _ else _) = _
  split
  · split <;> rfl
  · rfl
/-- how the reference ends a command -/
def hnd (p : PS × Int32) (e v : Int32) : PS := if p.2 = 0 then f_X8_handOn p.1 e v else p.1
theorem cmdT {μ : PS} {e y : Int32} (h : TXx (μ.1 11) (μ.1 12) e) : f_X8_command μ e y = g_X8_command_115 (upS (upS (upS μ 20 y) 19 (if μ.1 15 = 0 then μ.1 16 else 0)) 21 1) y := by
  obtain ⟨h1, h2, h3⟩ := h
  have e20 : ∀ v k : Int32, g_X8_command_20 μ e y v k = g_X8_command_115 (upS (upS (upS μ 20 y) 19 k) 21 1) y := fun v k => by
    unfold g_X8_command_20 g_X8_command_70 g_X8_command_76
    rw [if_pos h1, if_pos h2, if_pos h3, if_neg (show ¬ e = 87 by rw [h3]; decide), if_neg one_ne, if_neg one_ne]
  unfold f_X8_command
  try dsimp only
  rw [e20, e20]
  split <;> rfl
theorem cmdN {μ : PS} {e y : Int32} (h : ¬ TXx (μ.1 11) (μ.1 12) e) : f_X8_command μ e y = g_X8_command_115 (hnd (f_X8_known (upS (upS (upS μ 20 y) 19 (if e = 87 then (if μ.1 15 = 0 then μ.1 16 else 0) else 0)) 21 0) e (f_X8_value μ) (if μ.1 15 = 0 then μ.1 16 else 0)) e (f_X8_value μ)) y := by
  have e76 : ∀ v k d : Int32, g_X8_command_76 (upS μ 20 y) e y v k 0 d = g_X8_command_115 (hnd (f_X8_known (upS (upS (upS μ 20 y) 19 d) 21 0) e v k) e v) y := fun v k d => by
    unfold g_X8_command_76 hnd
    try dsimp only
    rw [if_pos rfl, if_pos rfl]
    split <;> rfl
  have e50 : ∀ v k : Int32, g_X8_command_50 μ e y v k = g_X8_command_115 (hnd (f_X8_known (upS (upS (upS μ 20 y) 19 (if e = 87 then k else 0)) 21 0) e v k) e v) y := fun v k => by
    unfold g_X8_command_50 g_X8_command_70
    rw [e76, e76]
    split <;> rfl
  have e20 : ∀ v k : Int32, g_X8_command_20 μ e y v k = g_X8_command_50 μ e y v k := fun v k => by
    unfold g_X8_command_20
    by_cases h1 : μ.1 11 = 38
    · rw [if_pos h1]
      by_cases h2 : μ.1 12 = 112
      · rw [if_pos h2]
        by_cases h3 : e = 88
        · exact absurd ⟨h1, h2, h3⟩ h
        · rw [if_neg h3]
      · rw [if_neg h2]
    · rw [if_neg h1]
  unfold f_X8_command
  try dsimp only
  rw [e20, e20, e50, e50]
  split <;> rfl
/-- text: the program's command does nothing -/
theorem cmd7T {σ : PS} (h : TXx (σ.1 0) (σ.1 1) (σ.1 3)) : f_X7_command σ = σ := by
  have ht : f_X5_hasText σ = 1 := by rw [txE, if_pos h]
  obtain ⟨h1, h2, h3⟩ := h
  have e22 : ∀ k : Int64, g_X7_command_22 σ k = σ := fun k => by
    unfold g_X7_command_22 g_X7_command_203
    try dsimp only
    rw [h1, h2, ht, if_neg (by decide), if_neg (by decide), if_neg (by decide), if_neg (by decide), if_pos (by decide), if_neg one_ne]
  unfold f_X7_command
  rw [e22, e22]
  split <;> rfl
/-- commands that data follow are handed on -/
theorem known87 {μ : PS} {v k : Int32} : (f_X8_known μ 87 v k).2 = 0 := by
  have hi : ∀ a b c : Int32, ¬ c = 87 → f_X8_is μ a b c 87 = 0 := fun a b c hc => by
    unfold f_X8_is
    rw [if_neg hc]
    split
    · split <;> rfl
    · rfl
  have hp : ∀ V : Int64, (f_X8_paging μ 87 V k).2 = 0 := fun V => by
    unfold f_X8_paging
    repeat (first | rw [if_neg (show ¬ (87 : Int32) = _ by decide)] | rw [if_pos rfl])
  have hc : ∀ V : Int64, (f_X8_cursor μ 87 v V).2 = 0 := fun V => by
    unfold f_X8_cursor g_X8_cursor_47 g_X8_cursor_96
    rw [hi _ _ _ (by decide), hi _ _ _ (by decide), hi _ _ _ (by decide), hi _ _ _ (by decide), hi _ _ _ (by decide), hi _ _ _ (by decide), if_pos rfl, if_pos rfl, if_pos rfl, if_pos rfl, if_pos rfl, if_pos rfl, if_pos rfl, if_pos rfl]
  have h39 : ∀ V : Int64, (g_X8_known_39 μ 87 v k V).2 = 0 := fun V => by
    unfold g_X8_known_39
    rw [hi _ _ _ (by decide), hi _ _ _ (by decide), hi _ _ _ (by decide), hi _ _ _ (by decide), hi _ _ _ (by decide), hi _ _ _ (by decide), if_pos rfl, if_pos rfl, if_pos rfl, if_pos rfl, if_pos rfl, if_pos rfl]
    exact hc V
  have h10 : ∀ V : Int64, (g_X8_known_10 μ 87 v k V).2 = 0 := fun V => by
    unfold g_X8_known_10
    split
    · split
      · exact hp V
      · exact h39 V
    · exact h39 V
  unfold f_X8_known
  split
  · exact h10 _
  · exact h10 _
