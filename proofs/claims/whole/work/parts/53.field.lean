/-! the pure relation, part 14: one byte comes: the field -/
theorem n0 : (0 : Int32).toInt = 0 := rfl
theorem n1 : (1 : Int32).toInt = 1 := rfl
theorem n2 : (2 : Int32).toInt = 2 := rfl
theorem n3 : (3 : Int32).toInt = 3 := rfl
theorem n4 : (4 : Int32).toInt = 4 := rfl
theorem n10 : (10 : Int32).toInt = 10 := rfl
theorem n27 : (27 : Int32).toInt = 27 := rfl
theorem n32 : (32 : Int32).toInt = 32 := rfl
theorem n33 : (33 : Int32).toInt = 33 := rfl
theorem n43 : (43 : Int32).toInt = 43 := rfl
theorem n45 : (45 : Int32).toInt = 45 := rfl
theorem n46 : (46 : Int32).toInt = 46 := rfl
theorem n47 : (47 : Int32).toInt = 47 := rfl
theorem n48 : (48 : Int32).toInt = 48 := rfl
theorem n57 : (57 : Int32).toInt = 57 := rfl
theorem n64 : (64 : Int32).toInt = 64 := rfl
theorem n94 : (94 : Int32).toInt = 94 := rfl
theorem n96 : (96 : Int32).toInt = 96 := rfl
theorem n126 : (126 : Int32).toInt = 126 := rfl
/-- the reference's field, case by case -/
theorem fld_dig {μ : PS} {b : Int32} (h1 : 48 ≤ b.toInt) (h2 : b.toInt ≤ 57) : f_X8_field μ b = g_X8_field_65 μ b 1 := by
  have k1 : ¬ b < 48 := by rw [lt32, n48]; omega
  have k2 : ¬ 57 < b := by rw [lt32, n57]; omega
  have k3 : ¬ b = 43 := by rw [eq32, n43]; omega
  have k4 : ¬ b = 45 := by rw [eq32, n45]; omega
  unfold f_X8_field g_X8_field_17
  rw [if_neg k1, if_neg k2, if_neg k3, if_neg k4]
  split <;> rfl
theorem fld_dig1 {μ : PS} {b : Int32} (h1 : 48 ≤ b.toInt) (h2 : b.toInt ≤ 57) (hp : (μ.1 13).toInt < 2) : f_X8_field μ b = upS (upS μ 16 (if ((((μ.1 16) * 10) + b) - 48) ≤ 32767 then ((((μ.1 16) * 10) + b) - 48) else 32767)) 13 1 := by
  rw [fld_dig h1 h2]
  unfold g_X8_field_65
  rw [if_neg (show ¬ 2 ≤ μ.1 13 by rw [le32, n2]; omega), if_neg one_ne]
  split <;> rfl
theorem fld_dig2 {μ : PS} {b : Int32} (h1 : 48 ≤ b.toInt) (h2 : b.toInt ≤ 57) (hp : μ.1 13 = 2) : f_X8_field μ b = if 4 ≤ μ.1 18 then upS (upS μ 17 (μ.1 17)) 18 (μ.1 18) else upS (upS μ 17 (((10 * (μ.1 17)) + b) - 48)) 18 ((μ.1 18) + 1) := by
  have k : (2 : Int32) ≤ μ.1 13 := by rw [hp]; decide
  rw [fld_dig h1 h2]
  unfold g_X8_field_65 g_X8_field_125 g_X8_field_147 g_X8_field_179
  rw [if_pos k, if_pos k, if_neg one_ne]
  split
  · rename_i q; rfl
  · rename_i q; rfl
/-- what is no digit -/
theorem fld_no {μ : PS} {b : Int32} (h : b.toInt < 48 ∨ 57 < b.toInt) : f_X8_field μ b = if μ.1 13 = 0 ∧ (b = 43 ∨ b = 45) then g_X8_field_37 μ b else if ¬ 2 ≤ μ.1 13 ∧ b = 46 then upS μ 13 2 else g_X8_field_147 μ b 0 := by
  have e : f_X8_field μ b = g_X8_field_17 μ b 0 := by
    unfold f_X8_field g_X8_field_16
    by_cases k : b < 48
    · rw [if_pos k]
    · rw [if_neg k, if_pos (show 57 < b by rw [lt32, n57]; rw [lt32, n48] at k; omega)]
  have e65 : g_X8_field_65 μ b 0 = g_X8_field_125 μ b 0 := by
    unfold g_X8_field_65
    rw [if_pos rfl]
    split <;> rfl
  rw [e]
  unfold g_X8_field_17
  rw [e65]
  have e125 : g_X8_field_125 μ b 0 = if ¬ 2 ≤ μ.1 13 ∧ b = 46 then upS μ 13 2 else g_X8_field_147 μ b 0 := by
    unfold g_X8_field_125
    by_cases k : (2 : Int32) ≤ μ.1 13
    · rw [if_pos k, if_neg (fun q => q.1 k)]
    · rw [if_neg k]
      by_cases k2 : b = 46
      · rw [if_pos k2, if_pos ⟨k, k2⟩]
      · rw [if_neg k2, if_neg (fun q => k2 q.2)]
  rw [e125]
  by_cases k : μ.1 13 = 0
  · rw [if_pos k]
    by_cases k2 : b = 43
    · rw [if_pos k2, if_pos ⟨k, Or.inl k2⟩]
    · rw [if_neg k2]
      by_cases k3 : b = 45
      · rw [if_pos k3, if_pos ⟨k, Or.inr k3⟩]
      · rw [if_neg k3, if_neg (show ¬ (μ.1 13 = 0 ∧ (b = 43 ∨ b = 45)) from fun q => q.2.elim k2 k3)]
  · rw [if_neg k, if_neg (show ¬ (μ.1 13 = 0 ∧ (b = 43 ∨ b = 45)) from fun q => k q.1)]
theorem fld_147 {μ : PS} {b : Int32} : g_X8_field_147 μ b 0 = if 64 ≤ b.toInt ∧ b.toInt ≤ 94 then f_X8_command μ b 1 else if 96 ≤ b.toInt ∧ b.toInt ≤ 126 then f_X8_command μ (b - 32) 0 else upS μ 10 (if b = 27 then 1 else 0) := by
  have e266 : g_X8_field_266 μ b = upS μ 10 (if b = 27 then 1 else 0) := by
    unfold g_X8_field_266
    split <;> rfl
  unfold g_X8_field_147 g_X8_field_222 g_X8_field_234 g_X8_field_249
  try dsimp only
  rw [if_pos rfl, e266]
  by_cases k1 : 64 ≤ b.toInt ∧ b.toInt ≤ 94
  · rw [if_pos k1, if_neg (show ¬ b < 64 by rw [lt32, n64]; omega), if_pos (show b ≤ 94 by rw [le32, n94]; omega), if_pos (show b < 96 by rw [lt32, n96]; omega), if_neg (show ¬ 96 ≤ b by rw [le32, n96]; omega)]
  · rw [if_neg k1]
    have e : (if b < 64 then (if b < 96 then upS μ 10 (if b = 27 then 1 else 0) else if 126 < b then upS μ 10 (if b = 27 then 1 else 0) else if b < 96 then if 96 ≤ b then f_X8_command μ b 0 else f_X8_command μ b 1 else if 96 ≤ b then f_X8_command μ (b - 32) 0 else f_X8_command μ (b - 32) 1) else if b ≤ 94 then if b < 96 then if 96 ≤ b then f_X8_command μ b 0 else f_X8_command μ b 1 else if 96 ≤ b then f_X8_command μ (b - 32) 0 else f_X8_command μ (b - 32) 1 else (if b < 96 then upS μ 10 (if b = 27 then 1 else 0) else if 126 < b then upS μ 10 (if b = 27 then 1 else 0) else if b < 96 then if 96 ≤ b then f_X8_command μ b 0 else f_X8_command μ b 1 else if 96 ≤ b then f_X8_command μ (b - 32) 0 else f_X8_command μ (b - 32) 1)) = (if b < 96 then upS μ 10 (if b = 27 then 1 else 0) else if 126 < b then upS μ 10 (if b = 27 then 1 else 0) else if b < 96 then if 96 ≤ b then f_X8_command μ b 0 else f_X8_command μ b 1 else if 96 ≤ b then f_X8_command μ (b - 32) 0 else f_X8_command μ (b - 32) 1) := by
      by_cases k2 : b < 64
      · rw [if_pos k2]
      · rw [if_neg k2, if_neg (show ¬ b ≤ 94 by rw [le32, n94]; rw [lt32, n64] at k2; omega)]
    rw [e]
    by_cases k2 : 96 ≤ b.toInt ∧ b.toInt ≤ 126
    · rw [if_pos k2, if_neg (show ¬ b < 96 by rw [lt32, n96]; omega), if_neg (show ¬ 126 < b by rw [lt32, n126]; omega), if_neg (show ¬ b < 96 by rw [lt32, n96]; omega), if_pos (show 96 ≤ b by rw [le32, n96]; omega)]
    · rw [if_neg k2]
      by_cases k3 : b < 96
      · rw [if_pos k3]
      · rw [if_neg k3, if_pos (show 126 < b by rw [lt32, n126]; rw [lt32, n96] at k3; omega)]
/-- the program's field -/
theorem inf_E {σ : PS} {b : Int32} : f_X5_inField σ b = if 64 ≤ b.toInt ∧ b.toInt ≤ 94 then (f_X5_endField (upS σ 6 0) b, 4) else if 96 ≤ b.toInt ∧ b.toInt ≤ 126 then (f_X5_endField σ (b - 32), 4) else g_X5_inField_46 σ b := by
  unfold f_X5_inField g_X5_inField_22
  try dsimp only
  by_cases k1 : 64 ≤ b.toInt ∧ b.toInt ≤ 94
  · rw [if_pos k1, if_pos (show b < 96 by rw [lt32, n96]; omega), if_neg (show ¬ b < 64 by rw [lt32, n64]; omega), if_neg (show ¬ 94 < b by rw [lt32, n94]; omega)]
  rw [if_neg k1]
  have e : (if b < 64 then g_X5_inField_46 σ b else if 94 < b then g_X5_inField_46 σ b else (f_X5_endField (upS σ 6 0) b, 4)) = g_X5_inField_46 σ b := by
    by_cases k2 : b < 64
    · rw [if_pos k2]
    · rw [if_neg k2, if_pos (show 94 < b by rw [lt32, n94]; rw [lt32, n64] at k2; omega)]
  rw [e]
  by_cases k2 : 96 ≤ b.toInt ∧ b.toInt ≤ 126
  · rw [if_pos k2, if_neg (show ¬ b < 96 by rw [lt32, n96]; omega), if_neg (show ¬ 126 < b by rw [lt32, n126]; omega)]
  · rw [if_neg k2]
    by_cases k3 : b < 96
    · rw [if_pos k3]
    · rw [if_neg k3, if_pos (show 126 < b by rw [lt32, n126]; rw [lt32, n96] at k3; omega)]
theorem inf_dig {σ : PS} {b : Int32} (h1 : 48 ≤ b.toInt) (h2 : b.toInt ≤ 57) : f_X5_inField σ b = (f_X5_digit σ (b - 48), 0) := by
  have e : f_X5_belongsToValue σ b = (f_X5_digit σ (b - 48), 1) := by
    unfold f_X5_belongsToValue
    try dsimp only
    rw [if_neg (show ¬ b < 48 by rw [lt32, n48]; omega), if_neg (show ¬ 57 < b by rw [lt32, n57]; omega)]
  rw [inf_E, if_neg (by omega), if_neg (by omega)]
  unfold g_X5_inField_46
  rw [e]
  try dsimp only
  rw [if_neg one_ne]
theorem inf_no {σ : PS} {b : Int32} (h : b.toInt < 48 ∨ 57 < b.toInt) (k1 : ¬ (64 ≤ b.toInt ∧ b.toInt ≤ 94)) (k2 : ¬ (96 ≤ b.toInt ∧ b.toInt ≤ 126)) : f_X5_inField σ b = if σ.1 7 = 0 ∧ (b = 43 ∨ b = 45) then (upS (upS (upS σ 7 1) 8 (if b = 43 then 1 else 0)) 9 (if b = 45 then 1 else 0), 0) else if ¬ σ.1 7 = 3 ∧ b = 46 then (upS σ 7 3, 0) else (upS σ 6 0, 0) := by
  rw [inf_E, if_neg k1, if_neg k2]
  have e : f_X5_belongsToValue σ b = g_X5_belongsToValue_22 σ b := by
    unfold f_X5_belongsToValue
    try dsimp only
    by_cases k : b < 48
    · rw [if_pos k]
    · rw [if_neg k, if_pos (show 57 < b by rw [lt32, n57]; rw [lt32, n48] at k; omega)]
  have F : ∀ (X : PS) (r : Int32), g_X5_belongsToValue_22 σ b = (X, r) → g_X5_inField_46 σ b = if r = 0 then (upS X 6 0, 0) else (X, 0) := fun X r q => by
    unfold g_X5_inField_46
    rw [e, q]
  by_cases q46 : b = 46
  · subst q46
    rw [if_neg (show ¬ (σ.1 7 = 0 ∧ ((46 : Int32) = 43 ∨ (46 : Int32) = 45)) from fun q => q.2.elim (by decide) (by decide))]
    by_cases q3 : σ.1 7 = 3
    · rw [F σ 0 (by unfold g_X5_belongsToValue_22 g_X5_belongsToValue_43; rw [if_pos rfl, if_pos q3, if_neg (by decide), if_neg (by decide)]), if_pos rfl, if_neg (show ¬ (¬ σ.1 7 = 3 ∧ (46 : Int32) = 46) from fun q => q.1 q3)]
    · rw [F (upS σ 7 3) 1 (by unfold g_X5_belongsToValue_22; rw [if_pos rfl, if_neg q3]), if_neg one_ne, if_pos ⟨q3, rfl⟩]
  · have e22 : g_X5_belongsToValue_22 σ b = g_X5_belongsToValue_43 σ b := by unfold g_X5_belongsToValue_22; rw [if_neg q46]
    rw [e22] at F
    rw [if_neg (show ¬ (¬ σ.1 7 = 3 ∧ b = 46) from fun q => q46 q.2)]
    unfold g_X5_belongsToValue_43 g_X5_belongsToValue_55 at F
    by_cases q0 : σ.1 7 = 0
    · by_cases q43 : b = 43
      · subst q43
        rw [F (upS (upS (upS σ 7 1) 8 1) 9 0) 1 (by rw [if_pos rfl, if_pos q0, if_pos rfl, if_neg (by decide)]), if_neg one_ne, if_pos ⟨q0, Or.inl rfl⟩, if_pos rfl, if_neg (show ¬ (43 : Int32) = 45 by decide)]
      · by_cases q45 : b = 45
        · subst q45
          rw [F (upS (upS (upS σ 7 1) 8 0) 9 1) 1 (by rw [if_neg (by decide), if_pos rfl, if_pos q0, if_neg (by decide), if_pos rfl]), if_neg one_ne, if_pos ⟨q0, Or.inr rfl⟩, if_neg (show ¬ (45 : Int32) = 43 by decide), if_pos rfl]
        · rw [F σ 0 (by rw [if_neg q43, if_neg q45]), if_pos rfl, if_neg (show ¬ (σ.1 7 = 0 ∧ (b = 43 ∨ b = 45)) from fun q => q.2.elim q43 q45)]
    · rw [F σ 0 (by rw [if_neg q0]; split; rfl; split <;> rfl), if_pos rfl, if_neg (show ¬ (σ.1 7 = 0 ∧ (b = 43 ∨ b = 45)) from fun q => q0 q.1)]
