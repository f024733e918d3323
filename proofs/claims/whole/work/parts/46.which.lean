/-! the pure relation, part 7: which command it is -/
theorem one_ne : ¬ (1 : Int32) = 0 := by decide
theorem i32nat {v : Int32} (h : 0 ≤ v.toInt) : (v.toBitVec.toNat : Int) = v.toInt := by
  have e : v.toInt = v.toBitVec.toInt := rfl
  rw [e] at h ⊢
  rw [BitVec.toInt_eq_toNat_cond] at h ⊢
  have := v.toBitVec.isLt
  split at h <;> rename_i q
  · rw [if_pos q]
  · omega
theorem i32ofnat {v : Int32} {n : Nat} (h : v.toBitVec.toNat = n) (hn : n < 2147483648) : v.toInt = (n : Int) := by
  have e : v.toInt = v.toBitVec.toInt := rfl
  rw [e, BitVec.toInt_eq_toNat_cond, h, if_pos (by omega)]
theorem codeE {f g : Int32} (hf : bd f 0 127) (hg : bd g 0 127) : ((f <<< (8 &&& 31)) ||| g).toInt = 256 * f.toInt + g.toInt := by
  obtain ⟨f1, f2⟩ := hf
  obtain ⟨g1, g2⟩ := hg
  have ef := i32nat f1
  have eg := i32nat g1
  have e8 : ((8 : Int32) &&& 31) = 8 := by decide
  have hn : ((f <<< (8 : Int32)) ||| g).toBitVec.toNat = 256 * f.toBitVec.toNat + g.toBitVec.toNat := by
    have h8 : (f <<< (8 : Int32)).toBitVec = f.toBitVec <<< 8 := rfl
    rw [Int32.toBitVec_or, BitVec.toNat_or, h8, BitVec.toNat_shiftLeft]
    have hl : f.toBitVec.toNat <<< 8 < 2 ^ 32 := by rw [Nat.shiftLeft_eq]; omega
    rw [Nat.mod_eq_of_lt hl, ← Nat.shiftLeft_add_eq_or_of_lt (by omega : g.toBitVec.toNat < 2 ^ 8), Nat.shiftLeft_eq]
    omega
  rw [e8, i32ofnat hn (by omega)]
  omega
theorem isZ {μ : PS} {a b c e : Int32} (h : ¬ (μ.1 11 = a ∧ μ.1 12 = b ∧ c = e)) : f_X8_is μ a b c e = 0 := by
  unfold f_X8_is
  by_cases h1 : μ.1 11 = a
  · rw [if_pos h1]
    by_cases h2 : μ.1 12 = b
    · rw [if_pos h2, if_neg (fun q => h ⟨h1, h2, q⟩)]
    · rw [if_neg h2]
  · rw [if_neg h1]
theorem isO {μ : PS} {a b c e : Int32} (h1 : μ.1 11 = a) (h2 : μ.1 12 = b) (h3 : c = e) : ¬ f_X8_is μ a b c e = 0 := by
  unfold f_X8_is
  rw [if_pos h1, if_pos h2, if_pos h3]
  decide
/-- a command's numbers on both sides -/
def CE (σ μ : PS) (k : Int32) (V : Int64) : Prop := (μ.1 11 = σ.1 0 ∧ μ.1 12 = σ.1 1 ∧ bd (σ.1 0) 0 127 ∧ bd (σ.1 1) 0 127) ∧ bd k 0 32767 ∧ (0 ≤ V.toInt ∧ V.toInt ≤ 327679999) ∧ V = (if 0 ≤ σ.1 2 then (σ.1 2).toInt64 else 0) ∧ V / 10000 = k.toInt64 ∧ μ.1 14 = σ.1 4 ∧ (σ.1 4 = 0 → V = (σ.1 2).toInt64)
theorem KK.w {n m : Int} {p q : PS × Int32} (h : KK n m p q) : KK n (m + 1) p q := ⟨h.1, h.2.w⟩
theorem PP.kK {n m : Int} {σ μ : PS} {k : Int32} {V : Int64} (hm : m ≤ 1000000) (h : PP n m σ μ) (hE : CE σ μ k V) (hf0 : σ.1 0 = 38) (hg0 : σ.1 1 = 107) : KK n (m + 1) (f_X7_spacingCommand σ V k.toInt64) (g_X8_known_39 μ (σ.1 3) (σ.1 2) k V) := by
  obtain ⟨⟨hf, hg, bf, bg⟩, hk, hV, hVe, hVk, hs, hsg⟩ := hE
  unfold f_X7_spacingCommand
  try dsimp only
  by_cases he : σ.1 3 = 71
  · rw [if_pos he]
    unfold g_X8_known_39
    try dsimp only
    rw [if_pos (isZ (fun q => absurd (q.2.2.trans he) (by decide))), if_neg (isO (hf.trans hf0) (hg.trans hg0) he.symm)]
    exact (h.cmdG hk).w
  have n71 := he
  clear he
  rw [if_neg n71]
  by_cases he : σ.1 3 = 72
  · rw [if_pos he]
    unfold g_X8_known_39
    try dsimp only
    rw [if_neg (isO (hf.trans hf0) (hg.trans hg0) he.symm)]
    exact (KK.o (h.cmdH hV)).w
  have n72 := he
  clear he
  rw [if_neg n72]
  unfold g_X8_known_39
  try dsimp only
  rw [if_pos (isZ (fun q => n72 q.2.2.symm)), if_pos (isZ (fun q => n71 q.2.2.symm)), if_pos (isZ (fun q => absurd ((hg.trans hg0).symm.trans q.2.1) (by decide))), if_pos (isZ (fun q => absurd ((hg.trans hg0).symm.trans q.2.1) (by decide))), if_pos (isZ (fun q => absurd ((hg.trans hg0).symm.trans q.2.1) (by decide))), if_pos (isZ (fun q => absurd ((hg.trans hg0).symm.trans q.2.1) (by decide)))]
  unfold f_X8_cursor g_X8_cursor_42 g_X8_cursor_47 g_X8_cursor_91 g_X8_cursor_96
  rw [if_pos (isZ (fun q => absurd ((hg.trans hg0).symm.trans q.2.1) (by decide))), if_pos (isZ (fun q => absurd ((hg.trans hg0).symm.trans q.2.1) (by decide))), if_pos (isZ (fun q => absurd ((hf.trans hf0).symm.trans q.1) (by decide)))]
  rw [if_pos (isZ (fun q => absurd ((hg.trans hg0).symm.trans q.2.1) (by decide))), if_pos (isZ (fun q => absurd ((hg.trans hg0).symm.trans q.2.1) (by decide))), if_pos (isZ (fun q => absurd ((hf.trans hf0).symm.trans q.1) (by decide))), if_pos rfl, if_pos rfl]
  exact KK.z h.w
theorem PP.kS {n m : Int} {σ μ : PS} {k : Int32} {V : Int64} (hm : m ≤ 1000000) (h : PP n m σ μ) (hE : CE σ μ k V) (hf0 : σ.1 0 = 38) (hg0 : σ.1 1 = 115) : KK n (m + 1) (f_X7_wrapCommand σ k.toInt64) (g_X8_known_39 μ (σ.1 3) (σ.1 2) k V) := by
  obtain ⟨⟨hf, hg, bf, bg⟩, hk, hV, hVe, hVk, hs, hsg⟩ := hE
  unfold f_X7_wrapCommand
  try dsimp only
  by_cases he : σ.1 3 = 67
  · rw [if_pos he]
    unfold g_X8_known_39
    try dsimp only
    rw [if_pos (isZ (fun q => absurd ((hg.trans hg0).symm.trans q.2.1) (by decide))), if_pos (isZ (fun q => absurd ((hg.trans hg0).symm.trans q.2.1) (by decide))), if_pos (isZ (fun q => absurd ((hg.trans hg0).symm.trans q.2.1) (by decide))), if_pos (isZ (fun q => absurd ((hg.trans hg0).symm.trans q.2.1) (by decide))), if_neg (isO (hf.trans hf0) (hg.trans hg0) he.symm)]
    exact (h.cmdC hk).w
  have n67 := he
  clear he
  rw [if_neg n67]
  unfold g_X8_known_39
  try dsimp only
  rw [if_pos (isZ (fun q => absurd ((hg.trans hg0).symm.trans q.2.1) (by decide))), if_pos (isZ (fun q => absurd ((hg.trans hg0).symm.trans q.2.1) (by decide))), if_pos (isZ (fun q => absurd ((hg.trans hg0).symm.trans q.2.1) (by decide))), if_pos (isZ (fun q => absurd ((hg.trans hg0).symm.trans q.2.1) (by decide))), if_pos (isZ (fun q => n67 q.2.2.symm)), if_pos (isZ (fun q => absurd ((hg.trans hg0).symm.trans q.2.1) (by decide)))]
  unfold f_X8_cursor g_X8_cursor_42 g_X8_cursor_47 g_X8_cursor_91 g_X8_cursor_96
  rw [if_pos (isZ (fun q => absurd ((hg.trans hg0).symm.trans q.2.1) (by decide))), if_pos (isZ (fun q => absurd ((hg.trans hg0).symm.trans q.2.1) (by decide))), if_pos (isZ (fun q => absurd ((hf.trans hf0).symm.trans q.1) (by decide)))]
  rw [if_pos (isZ (fun q => absurd ((hg.trans hg0).symm.trans q.2.1) (by decide))), if_pos (isZ (fun q => absurd ((hg.trans hg0).symm.trans q.2.1) (by decide))), if_pos (isZ (fun q => absurd ((hf.trans hf0).symm.trans q.1) (by decide))), if_pos rfl, if_pos rfl]
  exact KK.z h.w
theorem PP.kF {n m : Int} {σ μ : PS} {k : Int32} {V : Int64} (hm : m ≤ 1000000) (h : PP n m σ μ) (hE : CE σ μ k V) (hf0 : σ.1 0 = 38) (hg0 : σ.1 1 = 102) : KK n (m + 1) (f_X7_stackCommand σ k.toInt64) (g_X8_known_39 μ (σ.1 3) (σ.1 2) k V) := by
  obtain ⟨⟨hf, hg, bf, bg⟩, hk, hV, hVe, hVk, hs, hsg⟩ := hE
  unfold f_X7_stackCommand
  try dsimp only
  by_cases he : σ.1 3 = 83
  · rw [if_pos he]
    unfold g_X8_known_39
    try dsimp only
    rw [if_pos (isZ (fun q => absurd ((hg.trans hg0).symm.trans q.2.1) (by decide))), if_pos (isZ (fun q => absurd ((hg.trans hg0).symm.trans q.2.1) (by decide))), if_pos (isZ (fun q => absurd ((hg.trans hg0).symm.trans q.2.1) (by decide))), if_pos (isZ (fun q => absurd ((hg.trans hg0).symm.trans q.2.1) (by decide))), if_pos (isZ (fun q => absurd ((hg.trans hg0).symm.trans q.2.1) (by decide))), if_neg (isO (hf.trans hf0) (hg.trans hg0) he.symm)]
    exact (h.stk hk).w
  have n83 := he
  clear he
  rw [if_neg n83]
  unfold g_X8_known_39
  try dsimp only
  rw [if_pos (isZ (fun q => absurd ((hg.trans hg0).symm.trans q.2.1) (by decide))), if_pos (isZ (fun q => absurd ((hg.trans hg0).symm.trans q.2.1) (by decide))), if_pos (isZ (fun q => absurd ((hg.trans hg0).symm.trans q.2.1) (by decide))), if_pos (isZ (fun q => absurd ((hg.trans hg0).symm.trans q.2.1) (by decide))), if_pos (isZ (fun q => absurd ((hg.trans hg0).symm.trans q.2.1) (by decide))), if_pos (isZ (fun q => n83 q.2.2.symm))]
  unfold f_X8_cursor g_X8_cursor_42 g_X8_cursor_47 g_X8_cursor_91 g_X8_cursor_96
  rw [if_pos (isZ (fun q => absurd ((hg.trans hg0).symm.trans q.2.1) (by decide))), if_pos (isZ (fun q => absurd ((hg.trans hg0).symm.trans q.2.1) (by decide))), if_pos (isZ (fun q => absurd ((hf.trans hf0).symm.trans q.1) (by decide)))]
  rw [if_pos (isZ (fun q => absurd ((hg.trans hg0).symm.trans q.2.1) (by decide))), if_pos (isZ (fun q => absurd ((hg.trans hg0).symm.trans q.2.1) (by decide))), if_pos (isZ (fun q => absurd ((hf.trans hf0).symm.trans q.1) (by decide))), if_pos rfl, if_pos rfl]
  exact KK.z h.w
theorem PP.kD {n m : Int} {σ μ : PS} {k : Int32} {V : Int64} (hm : m ≤ 1000000) (h : PP n m σ μ) (hE : CE σ μ k V) (hf0 : σ.1 0 = 42) (hg0 : σ.1 1 = 112) : KK n (m + 1) (f_X7_dotCommand σ) (g_X8_known_39 μ (σ.1 3) (σ.1 2) k V) := by
  obtain ⟨⟨hf, hg, bf, bg⟩, hk, hV, hVe, hVk, hs, hsg⟩ := hE
  unfold f_X7_dotCommand
  try dsimp only
  by_cases he : σ.1 3 = 88
  · rw [if_pos he]
    unfold g_X8_known_39
    try dsimp only
    rw [if_pos (isZ (fun q => absurd ((hf.trans hf0).symm.trans q.1) (by decide))), if_pos (isZ (fun q => absurd ((hf.trans hf0).symm.trans q.1) (by decide))), if_pos (isZ (fun q => absurd ((hf.trans hf0).symm.trans q.1) (by decide))), if_pos (isZ (fun q => absurd ((hf.trans hf0).symm.trans q.1) (by decide))), if_pos (isZ (fun q => absurd ((hf.trans hf0).symm.trans q.1) (by decide))), if_pos (isZ (fun q => absurd ((hf.trans hf0).symm.trans q.1) (by decide)))]
    unfold f_X8_cursor g_X8_cursor_42 g_X8_cursor_47 g_X8_cursor_91 g_X8_cursor_96
    rw [if_pos (isZ (fun q => absurd ((hf.trans hf0).symm.trans q.1) (by decide))), if_pos (isZ (fun q => absurd ((hf.trans hf0).symm.trans q.1) (by decide))), if_neg (isO (hf.trans hf0) (hg.trans hg0) he.symm)]
    rw [if_pos (isZ (fun q => absurd ((hf.trans hf0).symm.trans q.1) (by decide))), if_pos (isZ (fun q => absurd ((hf.trans hf0).symm.trans q.1) (by decide))), if_pos (isZ (fun q => absurd (q.2.2.trans he) (by decide))), if_neg (show ¬ (1 : Int32) = 0 by decide)]
    unfold g_X8_cursor_110
    rw [if_neg (fun q => absurd (he.symm.trans q) (by decide)), if_neg (fun q => absurd (he.symm.trans q) (by decide)), if_pos (hf.trans hf0)]
    unfold g_X8_cursor_162
    try dsimp only
    rw [if_neg (show ¬ (1 : Int32) = 0 by decide), if_neg (show ¬ (1 : Int32) = 0 by decide)]
    have h9 := h.acr (U := 24) hs hsg
    by_cases q : μ.1 14 = 0
    · rw [if_pos q] at h9 ⊢; exact (KK.o h9).w
    · rw [if_neg q] at h9 ⊢; exact (KK.o h9).w
  have n88 := he
  clear he
  rw [if_neg n88]
  by_cases he : σ.1 3 = 89
  · rw [if_pos he]
    unfold g_X8_known_39
    try dsimp only
    rw [if_pos (isZ (fun q => absurd ((hf.trans hf0).symm.trans q.1) (by decide))), if_pos (isZ (fun q => absurd ((hf.trans hf0).symm.trans q.1) (by decide))), if_pos (isZ (fun q => absurd ((hf.trans hf0).symm.trans q.1) (by decide))), if_pos (isZ (fun q => absurd ((hf.trans hf0).symm.trans q.1) (by decide))), if_pos (isZ (fun q => absurd ((hf.trans hf0).symm.trans q.1) (by decide))), if_pos (isZ (fun q => absurd ((hf.trans hf0).symm.trans q.1) (by decide)))]
    unfold f_X8_cursor g_X8_cursor_42 g_X8_cursor_47 g_X8_cursor_91 g_X8_cursor_96
    rw [if_pos (isZ (fun q => absurd ((hf.trans hf0).symm.trans q.1) (by decide))), if_pos (isZ (fun q => absurd ((hf.trans hf0).symm.trans q.1) (by decide))), if_pos (isZ (fun q => absurd (q.2.2.trans he) (by decide)))]
    rw [if_pos (isZ (fun q => absurd ((hf.trans hf0).symm.trans q.1) (by decide))), if_pos (isZ (fun q => absurd ((hf.trans hf0).symm.trans q.1) (by decide))), if_neg (isO (hf.trans hf0) (hg.trans hg0) he.symm), if_pos rfl, if_neg (show ¬ (1 : Int32) = 0 by decide)]
    unfold g_X8_cursor_110
    rw [if_neg (fun q => absurd (he.symm.trans q) (by decide)), if_neg (fun q => absurd (he.symm.trans q) (by decide)), if_pos (hf.trans hf0)]
    unfold g_X8_cursor_162 g_X8_cursor_261
    try dsimp only
    rw [if_pos rfl, if_pos rfl, if_neg (fun q => absurd (he.symm.trans q) (by decide))]
    have h9 := h.dwn (U := 24) hs hsg (show μ.2.1 0 4 = σ.1 18 from h.1.2.1.2.2.2.2.1)
    by_cases q : μ.1 14 = 0
    · rw [if_pos q] at h9 ⊢; exact (KK.o h9).w
    · rw [if_neg q] at h9 ⊢; exact (KK.o h9).w
  have n89 := he
  clear he
  rw [if_neg n89]
  unfold g_X8_known_39
  try dsimp only
  rw [if_pos (isZ (fun q => absurd ((hf.trans hf0).symm.trans q.1) (by decide))), if_pos (isZ (fun q => absurd ((hf.trans hf0).symm.trans q.1) (by decide))), if_pos (isZ (fun q => absurd ((hf.trans hf0).symm.trans q.1) (by decide))), if_pos (isZ (fun q => absurd ((hf.trans hf0).symm.trans q.1) (by decide))), if_pos (isZ (fun q => absurd ((hf.trans hf0).symm.trans q.1) (by decide))), if_pos (isZ (fun q => absurd ((hf.trans hf0).symm.trans q.1) (by decide)))]
  unfold f_X8_cursor g_X8_cursor_42 g_X8_cursor_47 g_X8_cursor_91 g_X8_cursor_96
  rw [if_pos (isZ (fun q => absurd ((hf.trans hf0).symm.trans q.1) (by decide))), if_pos (isZ (fun q => absurd ((hf.trans hf0).symm.trans q.1) (by decide))), if_pos (isZ (fun q => n88 q.2.2.symm))]
  rw [if_pos (isZ (fun q => absurd ((hf.trans hf0).symm.trans q.1) (by decide))), if_pos (isZ (fun q => absurd ((hf.trans hf0).symm.trans q.1) (by decide))), if_pos (isZ (fun q => n89 q.2.2.symm)), if_pos rfl, if_pos rfl]
  exact KK.z h.w
theorem PP.kA1 {n m : Int} {σ μ : PS} {k : Int32} {V : Int64} (hm : m ≤ 1000000) (h : PP n m σ μ) (hE : CE σ μ k V) (hf0 : σ.1 0 = 38) (hg0 : σ.1 1 = 97) (hc : ¬ (f_X7_marginCommand σ k.toInt64).2 = 0) : KK n (m + 1) (f_X7_marginCommand σ k.toInt64) (g_X8_known_39 μ (σ.1 3) (σ.1 2) k V) := by
  obtain ⟨⟨hf, hg, bf, bg⟩, hk, hV, hVe, hVk, hs, hsg⟩ := hE
  unfold f_X7_marginCommand at hc ⊢
  try dsimp only at hc ⊢
  by_cases he : σ.1 3 = 76
  · rw [if_pos he]
    unfold g_X8_known_39
    try dsimp only
    rw [if_pos (isZ (fun q => absurd ((hg.trans hg0).symm.trans q.2.1) (by decide))), if_pos (isZ (fun q => absurd ((hg.trans hg0).symm.trans q.2.1) (by decide))), if_neg (isO (hf.trans hf0) (hg.trans hg0) he.symm)]
    exact (h.cmdL ⟨hk.1, by have := hk.2; omega⟩).w
  have n76 := he
  clear he
  rw [if_neg n76] at hc ⊢
  by_cases he : σ.1 3 = 77
  · rw [if_pos he]
    unfold g_X8_known_39
    try dsimp only
    rw [if_pos (isZ (fun q => absurd ((hg.trans hg0).symm.trans q.2.1) (by decide))), if_pos (isZ (fun q => absurd ((hg.trans hg0).symm.trans q.2.1) (by decide))), if_pos (isZ (fun q => absurd (q.2.2.trans he) (by decide))), if_neg (isO (hf.trans hf0) (hg.trans hg0) he.symm)]
    exact h.cmdM.w
  have n77 := he
  clear he
  rw [if_neg n77] at hc
  exact absurd rfl hc
theorem PP.kA2 {n m : Int} {σ μ : PS} {k : Int32} {V : Int64} (hm : m ≤ 1000000) (h : PP n m σ μ) (hE : CE σ μ k V) (hf0 : σ.1 0 = 38) (hg0 : σ.1 1 = 97) (hc : (f_X7_marginCommand σ k.toInt64).2 = 0) : KK n (m + 1) (f_X7_cursorCommand (f_X7_marginCommand σ k.toInt64).1) (g_X8_known_39 μ (σ.1 3) (σ.1 2) k V) := by
  obtain ⟨⟨hf, hg, bf, bg⟩, hk, hV, hVe, hVk, hs, hsg⟩ := hE
  have n76 : ¬ σ.1 3 = 76 := fun q => absurd hc (by unfold f_X7_marginCommand; rw [if_pos q]; exact (show ¬ (1 : Int32) = 0 by decide))
  have n77 : ¬ σ.1 3 = 77 := fun q => absurd hc (by unfold f_X7_marginCommand; rw [if_neg n76, if_pos q]; exact (show ¬ (1 : Int32) = 0 by decide))
  have e7 : (f_X7_marginCommand σ k.toInt64).1 = σ := by unfold f_X7_marginCommand; rw [if_neg n76, if_neg n77]
  rw [e7]
  unfold f_X7_cursorCommand
  try dsimp only
  by_cases he : σ.1 3 = 67
  · rw [if_pos he]
    rw [← (show μ.2.1 0 6 = σ.1 22 from h.1.2.1.2.2.2.2.2.2.1)]
    unfold g_X8_known_39
    try dsimp only
    rw [if_pos (isZ (fun q => absurd ((hg.trans hg0).symm.trans q.2.1) (by decide))), if_pos (isZ (fun q => absurd ((hg.trans hg0).symm.trans q.2.1) (by decide))), if_pos (isZ (fun q => absurd (q.2.2.trans he) (by decide))), if_pos (isZ (fun q => absurd (q.2.2.trans he) (by decide))), if_pos (isZ (fun q => absurd ((hg.trans hg0).symm.trans q.2.1) (by decide))), if_pos (isZ (fun q => absurd ((hg.trans hg0).symm.trans q.2.1) (by decide)))]
    unfold f_X8_cursor g_X8_cursor_42 g_X8_cursor_47 g_X8_cursor_91 g_X8_cursor_96
    rw [if_neg (isO (hf.trans hf0) (hg.trans hg0) he.symm)]
    rw [if_pos (isZ (fun q => absurd (q.2.2.trans he) (by decide))), if_pos (isZ (fun q => absurd (q.2.2.trans he) (by decide))), if_pos (isZ (fun q => absurd ((hf.trans hf0).symm.trans q.1) (by decide))), if_neg (show ¬ (1 : Int32) = 0 by decide)]
    unfold g_X8_cursor_110
    rw [if_pos he]
    unfold g_X8_cursor_162
    try dsimp only
    rw [if_neg (show ¬ (1 : Int32) = 0 by decide), if_neg (show ¬ (1 : Int32) = 0 by decide)]
    have h9 := h.acr (U := (σ.1 22).toInt64) hs hsg
    rw [← (show μ.2.1 0 6 = σ.1 22 from h.1.2.1.2.2.2.2.2.2.1)] at h9
    by_cases q : μ.1 14 = 0
    · rw [if_pos q] at h9 ⊢; exact (KK.o h9).w
    · rw [if_neg q] at h9 ⊢; exact (KK.o h9).w
  have n67 := he
  clear he
  rw [if_neg n67]
  by_cases he : σ.1 3 = 72
  · rw [if_pos he]
    unfold g_X8_known_39
    try dsimp only
    rw [if_pos (isZ (fun q => absurd ((hg.trans hg0).symm.trans q.2.1) (by decide))), if_pos (isZ (fun q => absurd ((hg.trans hg0).symm.trans q.2.1) (by decide))), if_pos (isZ (fun q => absurd (q.2.2.trans he) (by decide))), if_pos (isZ (fun q => absurd (q.2.2.trans he) (by decide))), if_pos (isZ (fun q => absurd ((hg.trans hg0).symm.trans q.2.1) (by decide))), if_pos (isZ (fun q => absurd ((hg.trans hg0).symm.trans q.2.1) (by decide)))]
    unfold f_X8_cursor g_X8_cursor_42 g_X8_cursor_47 g_X8_cursor_91 g_X8_cursor_96
    rw [if_pos (isZ (fun q => absurd (q.2.2.trans he) (by decide))), if_neg (isO (hf.trans hf0) (hg.trans hg0) he.symm)]
    rw [if_pos (isZ (fun q => absurd (q.2.2.trans he) (by decide))), if_pos (isZ (fun q => absurd (q.2.2.trans he) (by decide))), if_pos (isZ (fun q => absurd ((hf.trans hf0).symm.trans q.1) (by decide))), if_neg (show ¬ (1 : Int32) = 0 by decide)]
    unfold g_X8_cursor_110
    rw [if_neg (fun q => absurd (he.symm.trans q) (by decide)), if_neg (fun q => absurd (he.symm.trans q) (by decide)), if_neg (fun q => absurd ((hf.trans hf0).symm.trans q) (by decide))]
    unfold g_X8_cursor_162
    try dsimp only
    rw [if_neg (show ¬ (1 : Int32) = 0 by decide), if_neg (show ¬ (1 : Int32) = 0 by decide)]
    have h9 := h.acr (U := 10) hs hsg
    by_cases q : μ.1 14 = 0
    · rw [if_pos q] at h9 ⊢; exact (KK.o h9).w
    · rw [if_neg q] at h9 ⊢; exact (KK.o h9).w
  have n72 := he
  clear he
  rw [if_neg n72]
  by_cases he : σ.1 3 = 82
  · rw [if_pos he]
    rw [← (show μ.2.1 0 7 = σ.1 23 from h.1.2.1.2.2.2.2.2.2.2.1)]
    unfold g_X8_known_39
    try dsimp only
    rw [if_pos (isZ (fun q => absurd ((hg.trans hg0).symm.trans q.2.1) (by decide))), if_pos (isZ (fun q => absurd ((hg.trans hg0).symm.trans q.2.1) (by decide))), if_pos (isZ (fun q => absurd (q.2.2.trans he) (by decide))), if_pos (isZ (fun q => absurd (q.2.2.trans he) (by decide))), if_pos (isZ (fun q => absurd ((hg.trans hg0).symm.trans q.2.1) (by decide))), if_pos (isZ (fun q => absurd ((hg.trans hg0).symm.trans q.2.1) (by decide)))]
    unfold f_X8_cursor g_X8_cursor_42 g_X8_cursor_47 g_X8_cursor_91 g_X8_cursor_96
    rw [if_pos (isZ (fun q => absurd (q.2.2.trans he) (by decide))), if_pos (isZ (fun q => absurd (q.2.2.trans he) (by decide))), if_pos (isZ (fun q => absurd ((hf.trans hf0).symm.trans q.1) (by decide)))]
    rw [if_neg (isO (hf.trans hf0) (hg.trans hg0) he.symm), if_pos rfl, if_neg (show ¬ (1 : Int32) = 0 by decide)]
    unfold g_X8_cursor_110
    rw [if_neg (fun q => absurd (he.symm.trans q) (by decide)), if_pos he]
    unfold g_X8_cursor_162 g_X8_cursor_261
    try dsimp only
    rw [if_pos rfl, if_pos rfl, if_pos he]
    have h9 := h.dwn (U := (σ.1 23).toInt64) hs hsg (h.1.home)
    rw [← (show μ.2.1 0 7 = σ.1 23 from h.1.2.1.2.2.2.2.2.2.2.1)] at h9
    by_cases q : μ.1 14 = 0
    · rw [if_pos q] at h9 ⊢; exact (KK.o h9).w
    · rw [if_neg q] at h9 ⊢; exact (KK.o h9).w
  have n82 := he
  clear he
  rw [if_neg n82]
  by_cases he : σ.1 3 = 86
  · rw [if_pos he]
    unfold g_X8_known_39
    try dsimp only
    rw [if_pos (isZ (fun q => absurd ((hg.trans hg0).symm.trans q.2.1) (by decide))), if_pos (isZ (fun q => absurd ((hg.trans hg0).symm.trans q.2.1) (by decide))), if_pos (isZ (fun q => absurd (q.2.2.trans he) (by decide))), if_pos (isZ (fun q => absurd (q.2.2.trans he) (by decide))), if_pos (isZ (fun q => absurd ((hg.trans hg0).symm.trans q.2.1) (by decide))), if_pos (isZ (fun q => absurd ((hg.trans hg0).symm.trans q.2.1) (by decide)))]
    unfold f_X8_cursor g_X8_cursor_42 g_X8_cursor_47 g_X8_cursor_91 g_X8_cursor_96
    rw [if_pos (isZ (fun q => absurd (q.2.2.trans he) (by decide))), if_pos (isZ (fun q => absurd (q.2.2.trans he) (by decide))), if_pos (isZ (fun q => absurd ((hf.trans hf0).symm.trans q.1) (by decide)))]
    rw [if_pos (isZ (fun q => absurd (q.2.2.trans he) (by decide))), if_neg (isO (hf.trans hf0) (hg.trans hg0) he.symm), if_pos rfl, if_neg (show ¬ (1 : Int32) = 0 by decide)]
    unfold g_X8_cursor_110
    rw [if_neg (fun q => absurd (he.symm.trans q) (by decide)), if_neg (fun q => absurd (he.symm.trans q) (by decide)), if_neg (fun q => absurd ((hf.trans hf0).symm.trans q) (by decide))]
    unfold g_X8_cursor_162 g_X8_cursor_261
    try dsimp only
    rw [if_pos rfl, if_pos rfl, if_neg (fun q => absurd (he.symm.trans q) (by decide))]
    have h9 := h.dwn (U := 10) hs hsg (show μ.2.1 0 4 = σ.1 18 from h.1.2.1.2.2.2.2.1)
    by_cases q : μ.1 14 = 0
    · rw [if_pos q] at h9 ⊢; exact (KK.o h9).w
    · rw [if_neg q] at h9 ⊢; exact (KK.o h9).w
  have n86 := he
  clear he
  rw [if_neg n86]
  unfold g_X8_known_39
  try dsimp only
  rw [if_pos (isZ (fun q => absurd ((hg.trans hg0).symm.trans q.2.1) (by decide))), if_pos (isZ (fun q => absurd ((hg.trans hg0).symm.trans q.2.1) (by decide))), if_pos (isZ (fun q => n76 q.2.2.symm)), if_pos (isZ (fun q => n77 q.2.2.symm)), if_pos (isZ (fun q => absurd ((hg.trans hg0).symm.trans q.2.1) (by decide))), if_pos (isZ (fun q => absurd ((hg.trans hg0).symm.trans q.2.1) (by decide)))]
  unfold f_X8_cursor g_X8_cursor_42 g_X8_cursor_47 g_X8_cursor_91 g_X8_cursor_96
  rw [if_pos (isZ (fun q => n67 q.2.2.symm)), if_pos (isZ (fun q => n72 q.2.2.symm)), if_pos (isZ (fun q => absurd ((hf.trans hf0).symm.trans q.1) (by decide)))]
  rw [if_pos (isZ (fun q => n82 q.2.2.symm)), if_pos (isZ (fun q => n86 q.2.2.symm)), if_pos (isZ (fun q => absurd ((hf.trans hf0).symm.trans q.1) (by decide))), if_pos rfl, if_pos rfl]
  exact KK.z h.w
theorem PP.kP {n m : Int} {σ μ : PS} {k : Int32} {V : Int64} (hm : m ≤ 1000000) (h : PP n m σ μ) (hE : CE σ μ k V) (hf0 : σ.1 0 = 38) (hg0 : σ.1 1 = 112) : KK n (m + 1) ((σ, 0)) (g_X8_known_39 μ (σ.1 3) (σ.1 2) k V) := by
  obtain ⟨⟨hf, hg, bf, bg⟩, hk, hV, hVe, hVk, hs, hsg⟩ := hE
  unfold g_X8_known_39
  try dsimp only
  rw [if_pos (isZ (fun q => absurd ((hg.trans hg0).symm.trans q.2.1) (by decide))), if_pos (isZ (fun q => absurd ((hg.trans hg0).symm.trans q.2.1) (by decide))), if_pos (isZ (fun q => absurd ((hg.trans hg0).symm.trans q.2.1) (by decide))), if_pos (isZ (fun q => absurd ((hg.trans hg0).symm.trans q.2.1) (by decide))), if_pos (isZ (fun q => absurd ((hg.trans hg0).symm.trans q.2.1) (by decide))), if_pos (isZ (fun q => absurd ((hg.trans hg0).symm.trans q.2.1) (by decide)))]
  unfold f_X8_cursor g_X8_cursor_42 g_X8_cursor_47 g_X8_cursor_91 g_X8_cursor_96
  rw [if_pos (isZ (fun q => absurd ((hg.trans hg0).symm.trans q.2.1) (by decide))), if_pos (isZ (fun q => absurd ((hg.trans hg0).symm.trans q.2.1) (by decide))), if_pos (isZ (fun q => absurd ((hf.trans hf0).symm.trans q.1) (by decide)))]
  rw [if_pos (isZ (fun q => absurd ((hg.trans hg0).symm.trans q.2.1) (by decide))), if_pos (isZ (fun q => absurd ((hg.trans hg0).symm.trans q.2.1) (by decide))), if_pos (isZ (fun q => absurd ((hf.trans hf0).symm.trans q.1) (by decide))), if_pos rfl, if_pos rfl]
  exact KK.z h.w
theorem PP.kN {n m : Int} {σ μ : PS} {k : Int32} {V : Int64} (hm : m ≤ 1000000) (h : PP n m σ μ) (hE : CE σ μ k V) (hno_38_97 : ¬ (σ.1 0 = 38 ∧ σ.1 1 = 97)) (hno_38_102 : ¬ (σ.1 0 = 38 ∧ σ.1 1 = 102)) (hno_38_107 : ¬ (σ.1 0 = 38 ∧ σ.1 1 = 107)) (hno_38_115 : ¬ (σ.1 0 = 38 ∧ σ.1 1 = 115)) (hno_42_112 : ¬ (σ.1 0 = 42 ∧ σ.1 1 = 112)) : KK n (m + 1) (σ, 0) (g_X8_known_39 μ (σ.1 3) (σ.1 2) k V) := by
  obtain ⟨⟨hf, hg, bf, bg⟩, hk, hV, hVe, hVk, hs, hsg⟩ := hE
  unfold g_X8_known_39
  try dsimp only
  rw [if_pos (isZ (fun q => hno_38_107 ⟨hf.symm.trans q.1, hg.symm.trans q.2.1⟩)), if_pos (isZ (fun q => hno_38_107 ⟨hf.symm.trans q.1, hg.symm.trans q.2.1⟩)), if_pos (isZ (fun q => hno_38_97 ⟨hf.symm.trans q.1, hg.symm.trans q.2.1⟩)), if_pos (isZ (fun q => hno_38_97 ⟨hf.symm.trans q.1, hg.symm.trans q.2.1⟩)), if_pos (isZ (fun q => hno_38_115 ⟨hf.symm.trans q.1, hg.symm.trans q.2.1⟩)), if_pos (isZ (fun q => hno_38_102 ⟨hf.symm.trans q.1, hg.symm.trans q.2.1⟩))]
  unfold f_X8_cursor g_X8_cursor_42 g_X8_cursor_47 g_X8_cursor_91 g_X8_cursor_96
  rw [if_pos (isZ (fun q => hno_38_97 ⟨hf.symm.trans q.1, hg.symm.trans q.2.1⟩)), if_pos (isZ (fun q => hno_38_97 ⟨hf.symm.trans q.1, hg.symm.trans q.2.1⟩)), if_pos (isZ (fun q => hno_42_112 ⟨hf.symm.trans q.1, hg.symm.trans q.2.1⟩))]
  rw [if_pos (isZ (fun q => hno_38_97 ⟨hf.symm.trans q.1, hg.symm.trans q.2.1⟩)), if_pos (isZ (fun q => hno_38_97 ⟨hf.symm.trans q.1, hg.symm.trans q.2.1⟩)), if_pos (isZ (fun q => hno_42_112 ⟨hf.symm.trans q.1, hg.symm.trans q.2.1⟩)), if_pos rfl, if_pos rfl]
  exact KK.z h.w
set_option maxHeartbeats 1000000 in
theorem PP.known {n m : Int} {σ μ : PS} {k : Int32} {V : Int64} (hm : m ≤ 1000000) (h : PP n m σ μ) (hE : CE σ μ k V) (hnt : ¬ (σ.1 0 = 38 ∧ σ.1 1 = 112 ∧ σ.1 3 = 88)) : ∃ (κ : PS) (r : Int32), f_X7_command σ = g_X7_command_203 κ r ∧ Fr7 σ κ ∧ KK n (m + 1) (κ, r) (f_X8_known μ (σ.1 3) (σ.1 2) k) := by
  obtain ⟨⟨hf, hg, bf, bg⟩, hk, hV, hVe, hVk, hs, hsg⟩ := hE
  have hE2 : CE σ μ k V := ⟨⟨hf, hg, bf, bg⟩, hk, hV, hVe, hVk, hs, hsg⟩
  have e7 : f_X7_command σ = g_X7_command_22 σ V := by
    unfold f_X7_command
    rw [hVe]
    split <;> rfl
  have e8 : f_X8_known μ (σ.1 3) (σ.1 2) k = g_X8_known_10 μ (σ.1 3) (σ.1 2) k V := by
    unfold f_X8_known
    rw [hVe]
    split <;> rfl
  rw [e7, e8]
  unfold g_X7_command_22 g_X8_known_10 g_X7_command_149 g_X7_command_154
  try dsimp only
  rw [hVk]
  have hcode := codeE bf bg
  generalize hC : ((σ.1 0) <<< (8 &&& 31)) ||| (σ.1 1) = C at hcode
  have z9825 : (9825 : Int32).toInt = 9825 := rfl
  have z9830 : (9830 : Int32).toInt = 9830 := rfl
  have z9835 : (9835 : Int32).toInt = 9835 := rfl
  have z9836 : (9836 : Int32).toInt = 9836 := rfl
  have z9840 : (9840 : Int32).toInt = 9840 := rfl
  have z9843 : (9843 : Int32).toInt = 9843 := rfl
  have z10864 : (10864 : Int32).toInt = 10864 := rfl
  have y38 : (38 : Int32).toInt = 38 := rfl
  have y42 : (42 : Int32).toInt = 42 := rfl
  have y97 : (97 : Int32).toInt = 97 := rfl
  have y102 : (102 : Int32).toInt = 102 := rfl
  have y107 : (107 : Int32).toInt = 107 := rfl
  have y108 : (108 : Int32).toInt = 108 := rfl
  have y112 : (112 : Int32).toInt = 112 := rfl
  have y115 : (115 : Int32).toInt = 115 := rfl
  obtain ⟨f1, f2⟩ := bf
  obtain ⟨g1, g2⟩ := bg
  by_cases d9825 : C = 9825
  · rw [if_pos d9825]
    rw [eq32, hcode, z9825] at d9825
    have hf0 : σ.1 0 = 38 := i32ext (by omega)
    have hg0 : σ.1 1 = 97 := i32ext (by omega)
    rw [if_pos (hf.trans hf0), if_neg (fun q => absurd ((hg.trans hg0).symm.trans q) (by decide))]
    by_cases hc : (f_X7_marginCommand σ k.toInt64).2 = 0
    · rw [if_pos hc]
      have h9 := h.kA2 hm hE2 hf0 hg0 hc
      have h8 : Fr7 σ (f_X7_cursorCommand (f_X7_marginCommand σ k.toInt64).1).1 := fr7_f_X7_cursorCommand (fr7_f_X7_marginCommand Fr7.r)
      by_cases hd : (f_X7_cursorCommand (f_X7_marginCommand σ k.toInt64).1).2 = 0
      · rw [if_pos hd]
        exact ⟨_, 0, rfl, h8, ⟨⟨fun _ => h9.1.mp hd, fun _ => rfl⟩, h9.2⟩⟩
      · rw [if_neg hd]
        exact ⟨_, 1, rfl, h8, ⟨⟨fun q => absurd q one_ne, fun q => absurd (h9.1.mpr q) hd⟩, h9.2⟩⟩
    · rw [if_neg hc]
      have h9 := h.kA1 hm hE2 hf0 hg0 hc
      exact ⟨_, 1, rfl, fr7_f_X7_marginCommand Fr7.r, ⟨⟨fun q => absurd q one_ne, fun q => absurd (h9.1.mpr q) hc⟩, h9.2⟩⟩
  by_cases d9830 : C = 9830
  · rw [if_neg d9825, if_pos d9830]
    rw [eq32, hcode, z9830] at d9830
    have hf0 : σ.1 0 = 38 := i32ext (by omega)
    have hg0 : σ.1 1 = 102 := i32ext (by omega)
    rw [if_pos (hf.trans hf0), if_neg (fun q => absurd ((hg.trans hg0).symm.trans q) (by decide))]
    exact ⟨_, _, rfl, fr7_f_X7_stackCommand Fr7.r, h.kF hm hE2 hf0 hg0⟩
  by_cases d9835 : C = 9835
  · rw [if_neg d9825, if_neg d9830, if_pos d9835]
    rw [eq32, hcode, z9835] at d9835
    have hf0 : σ.1 0 = 38 := i32ext (by omega)
    have hg0 : σ.1 1 = 107 := i32ext (by omega)
    rw [if_pos (hf.trans hf0), if_neg (fun q => absurd ((hg.trans hg0).symm.trans q) (by decide))]
    exact ⟨_, _, rfl, fr7_f_X7_spacingCommand Fr7.r, h.kK hm hE2 hf0 hg0⟩
  by_cases d9836 : C = 9836
  · rw [if_neg d9825, if_neg d9830, if_neg d9835, if_pos d9836]
    rw [eq32, hcode, z9836] at d9836
    have hf0 : σ.1 0 = 38 := i32ext (by omega)
    have hg0 : σ.1 1 = 108 := i32ext (by omega)
    rw [if_pos (hf.trans hf0), if_pos (hg.trans hg0)]
    exact ⟨_, _, rfl, fr7_f_X7_pageCommand Fr7.r, h.paging hm hk hV⟩
  by_cases d9840 : C = 9840
  · rw [if_neg d9825, if_neg d9830, if_neg d9835, if_neg d9836, if_pos d9840]
    rw [eq32, hcode, z9840] at d9840
    have hf0 : σ.1 0 = 38 := i32ext (by omega)
    have hg0 : σ.1 1 = 112 := i32ext (by omega)
    rw [if_pos (hf.trans hf0), if_neg (fun q => absurd ((hg.trans hg0).symm.trans q) (by decide))]
    have ht : f_X5_hasText σ = 0 := by
      unfold f_X5_hasText
      rw [if_pos hf0, if_pos hg0, if_neg (fun q => hnt ⟨hf0, hg0, q⟩)]
    rw [ht]
    exact ⟨_, 0, rfl, Fr7.r, h.kP hm hE2 hf0 hg0⟩
  by_cases d9843 : C = 9843
  · rw [if_neg d9825, if_neg d9830, if_neg d9835, if_neg d9836, if_neg d9840, if_pos d9843]
    rw [eq32, hcode, z9843] at d9843
    have hf0 : σ.1 0 = 38 := i32ext (by omega)
    have hg0 : σ.1 1 = 115 := i32ext (by omega)
    rw [if_pos (hf.trans hf0), if_neg (fun q => absurd ((hg.trans hg0).symm.trans q) (by decide))]
    exact ⟨_, _, rfl, fr7_f_X7_wrapCommand Fr7.r, h.kS hm hE2 hf0 hg0⟩
  by_cases d10864 : C = 10864
  · rw [if_neg d9825, if_neg d9830, if_neg d9835, if_neg d9836, if_neg d9840, if_neg d9843, if_pos d10864]
    rw [eq32, hcode, z10864] at d10864
    have hf0 : σ.1 0 = 42 := i32ext (by omega)
    have hg0 : σ.1 1 = 112 := i32ext (by omega)
    rw [if_neg (fun q => absurd ((hf.trans hf0).symm.trans q) (by decide))]
    exact ⟨_, _, rfl, fr7_f_X7_dotCommand Fr7.r, h.kD hm hE2 hf0 hg0⟩
  rw [if_neg d9825, if_neg d9830, if_neg d9835, if_neg d9836, if_neg d9840, if_neg d9843, if_neg d10864]
  have hn : ∀ (a b : Int32) (c : Int32), c.toInt = 256 * a.toInt + b.toInt → ¬ C = c → ¬ (σ.1 0 = a ∧ σ.1 1 = b) := fun a b c e1 e2 e3 => e2 (i32ext (by rw [hcode, e1, e3.1, e3.2]))
  have h9 := h.kN hm hE2 (hn 38 97 9825 rfl d9825) (hn 38 102 9830 rfl d9830) (hn 38 107 9835 rfl d9835) (hn 38 115 9843 rfl d9843) (hn 42 112 10864 rfl d10864)
  refine ⟨σ, 0, rfl, Fr7.r, ?_⟩
  by_cases q1 : μ.1 11 = 38
  · rw [if_pos q1]
    rw [if_neg (fun q => hn 38 108 9836 rfl d9836 ⟨hf.symm.trans q1, hg.symm.trans q⟩)]
    exact h9
  · rw [if_neg q1]
    exact h9
