/-! the pure relation, part 1: arithmetic, layout, paper, stack -/
def bd (v : Int32) (lo hi : Int) : Prop := lo ≤ v.toInt ∧ v.toInt ≤ hi
theorem i64I (x : Int32) : x.toInt64.toInt = x.toInt := Int32.toInt_toInt64 x
theorem i64r (x : Int64) : -9223372036854775808 ≤ x.toInt ∧ x.toInt ≤ 9223372036854775807 := ⟨Int64.le_toInt x, by have := Int64.toInt_lt x; omega⟩
theorem tI32 {x : Int64} (h1 : -2147483648 ≤ x.toInt) (h2 : x.toInt ≤ 2147483647) : x.toInt32.toInt = x.toInt := by
  rw [Int64.toInt_toInt32, Int.bmod_def]
  split <;> omega
theorem i64div {a b : Int64} (ha : 0 ≤ a.toInt) (hb : 0 < b.toInt) : (a / b).toInt = a.toInt / b.toInt := by
  have h1 := Int.ediv_nonneg ha (Int.le_of_lt hb)
  have h2 := Int.ediv_le_self b.toInt ha
  have h3 := i64r a
  rw [Int64.toInt_div, Int.tdiv_eq_ediv_of_nonneg ha, Int.bmod_def]
  split <;> omega
theorem i32div {a b : Int32} (ha : 0 ≤ a.toInt) (hb : 0 < b.toInt) : (a / b).toInt = a.toInt / b.toInt := by
  have h1 := Int.ediv_nonneg ha (Int.le_of_lt hb)
  have h2 := Int.ediv_le_self b.toInt ha
  have h3 := i32r a
  rw [Int32.toInt_div, Int.tdiv_eq_ediv_of_nonneg ha, Int.bmod_def]
  split <;> omega
theorem i32neg {a : Int32} (h : -2147483647 ≤ a.toInt) : (-a).toInt = -a.toInt := by
  have h3 := i32r a
  rw [Int32.toInt_neg, Int.bmod_def]
  split <;> omega
theorem i32ext {a b : Int32} (h : a.toInt = b.toInt) : a = b := Int32.toInt_inj.mp h
theorem i64ext {a b : Int64} (h : a.toInt = b.toInt) : a = b := Int64.toInt_inj.mp h
theorem rem32 {a m : Int32} (ha : 0 ≤ a.toInt) : (a - a / m * m).toInt = a.toInt % m.toInt := by rw [rem_toInt, Int.tmod_eq_emod_of_nonneg ha]
theorem clampI {v : Int32} (h : 0 ≤ v.toInt) : ((v.toNatClampNeg : Nat) : Int) = v.toInt := by
  have : v.toNatClampNeg = v.toInt.toNat := rfl
  rw [this]; omega
theorem clampE {v : Int32} {n : Nat} (h : v.toInt = (n : Int)) : v.toNatClampNeg = n := by
  have : v.toNatClampNeg = v.toInt.toNat := rfl
  rw [this, h]; rfl
theorem lt32 {a b : Int32} : a < b ↔ a.toInt < b.toInt := Int32.lt_iff_toInt_lt
theorem le32 {a b : Int32} : a ≤ b ↔ a.toInt ≤ b.toInt := Int32.le_iff_toInt_le
theorem lt64 {a b : Int64} : a < b ↔ a.toInt < b.toInt := Int64.lt_iff_toInt_lt
theorem le64 {a b : Int64} : a ≤ b ↔ a.toInt ≤ b.toInt := Int64.le_iff_toInt_le
theorem eq32 {a b : Int32} : a = b ↔ a.toInt = b.toInt := Int32.toInt_inj.symm
theorem eq64 {a b : Int64} : a = b ↔ a.toInt = b.toInt := Int64.toInt_inj.symm
theorem ite2 {α β : Type} {P : α → β → Prop} {c d : Prop} [Decidable c] [Decidable d] {x y : α} {z w : β} (e : c ↔ d) (h1 : c → d → P x z) (h2 : ¬ c → ¬ d → P y w) : P (if c then x else y) (if d then z else w) := by
  by_cases h : c
  · rw [if_pos h, if_pos (e.mp h)]; exact h1 h (e.mp h)
  · rw [if_neg h, if_neg (fun q => h (e.mpr q))]; exact h2 h (fun q => h (e.mpr q))
theorem iteL {α : Type} {P : α → Prop} {c : Prop} [Decidable c] {x y : α} (h1 : c → P x) (h2 : ¬ c → P y) : P (if c then x else y) := by
  by_cases h : c
  · rw [if_pos h]; exact h1 h
  · rw [if_neg h]; exact h2 h
theorem upd_ne {f : Nat → Int32} {k j : Nat} {v : Int32} (h : j ≠ k) : upd f k v j = f j := by simp only [upd, if_neg h]
theorem upd_eq {f : Nat → Int32} {k : Nat} {v : Int32} : upd f k v k = v := by simp only [upd, if_true]
/-- frames: what the page's functions leave alone -/
def Fr7 (σ τ : PS) : Prop := (∀ k : Nat, (k < 13 ∨ 35 ≤ k) → τ.1 k = σ.1 k) ∧ (∀ j : Nat, (j ≠ 1 ∧ j ≠ 2 ∧ j ≠ 4) → τ.2.1 j = σ.2.1 j)
def Fr8 (σ τ : PS) : Prop := (∀ k : Nat, (¬ (4 ≤ k ∧ k ≤ 8) ∧ ¬ (23 ≤ k ∧ k ≤ 27)) → τ.1 k = σ.1 k) ∧ (∀ j : Nat, (j ≠ 0 ∧ j ≠ 4 ∧ j ≠ 5) → τ.2.1 j = σ.2.1 j)
theorem up_ne {α : Type} {f : Nat → α} {k j : Nat} {v : α} (h : j ≠ k) : va_up f k v j = f j := by simp only [va_up, if_neg h]
theorem Fr7.r {σ : PS} : Fr7 σ σ := ⟨fun _ _ => rfl, fun _ _ => rfl⟩
theorem Fr8.r {σ : PS} : Fr8 σ σ := ⟨fun _ _ => rfl, fun _ _ => rfl⟩
theorem Fr7.t {σ τ ρ : PS} (h : Fr7 σ τ) (g : Fr7 τ ρ) : Fr7 σ ρ := ⟨fun k q => (g.1 k q).trans (h.1 k q), fun k q => (g.2 k q).trans (h.2 k q)⟩
theorem Fr8.t {σ τ ρ : PS} (h : Fr8 σ τ) (g : Fr8 τ ρ) : Fr8 σ ρ := ⟨fun k q => (g.1 k q).trans (h.1 k q), fun k q => (g.2 k q).trans (h.2 k q)⟩
theorem Fr7.S {σ τ : PS} {k : Nat} {v : Int32} (h : Fr7 σ τ) (hk : 13 ≤ k ∧ k < 35) : Fr7 σ (upS τ k v) := ⟨fun j q => (up_ne (by omega)).trans (h.1 j q), h.2⟩
theorem Fr8.S {σ τ : PS} {k : Nat} {v : Int32} (h : Fr8 σ τ) (hk : (4 ≤ k ∧ k ≤ 8) ∨ (23 ≤ k ∧ k ≤ 27)) : Fr8 σ (upS τ k v) := ⟨fun j q => (up_ne (by omega)).trans (h.1 j q), h.2⟩
theorem Fr7.A {σ τ : PS} {k i : Nat} {v : Int32} (h : Fr7 σ τ) (hk : k = 1 ∨ k = 2 ∨ k = 4) : Fr7 σ (upA τ k i v) := ⟨h.1, fun j q => (up_ne (by omega)).trans (h.2 j q)⟩
theorem Fr8.A {σ τ : PS} {k i : Nat} {v : Int32} (h : Fr8 σ τ) (hk : k = 0 ∨ k = 4 ∨ k = 5) : Fr8 σ (upA τ k i v) := ⟨h.1, fun j q => (up_ne (by omega)).trans (h.2 j q)⟩
theorem Fr7.G {σ τ : PS} {i : Nat} {v : Int64} (h : Fr7 σ τ) : Fr7 σ (upG τ i v) := h
theorem Fr7.I {σ : PS} {c : Prop} [Decidable c] {x y : PS} (h1 : Fr7 σ x) (h2 : Fr7 σ y) : Fr7 σ (if c then x else y) := by split <;> assumption
theorem Fr8.I {σ : PS} {c : Prop} [Decidable c] {x y : PS} (h1 : Fr8 σ x) (h2 : Fr8 σ y) : Fr8 σ (if c then x else y) := by split <;> assumption
theorem Fr7.I2 {σ : PS} {c : Prop} [Decidable c] {x y : PS × Int32} (h1 : Fr7 σ x.1) (h2 : Fr7 σ y.1) : Fr7 σ (if c then x else y).1 := by split <;> assumption
theorem Fr8.I2 {σ : PS} {c : Prop} [Decidable c] {x y : PS × Int32} (h1 : Fr8 σ x.1) (h2 : Fr8 σ y.1) : Fr8 σ (if c then x else y).1 := by split <;> assumption
theorem fr7_g_X4_choose_56 {σ τ : PS} {y3 : Int32} {k0 : Int32} (h : Fr7 σ τ) : Fr7 σ (g_X4_choose_56 τ y3 k0) := by
  unfold g_X4_choose_56
  try dsimp only
  repeat' first | exact h | (with_reducible refine Fr7.S ?_ (by decide)) | (with_reducible refine Fr7.A ?_ (by decide)) | (with_reducible refine Fr7.G ?_) | (with_reducible refine Fr7.I ?_ ?_) | (with_reducible refine Fr7.I2 ?_ ?_)
theorem fr7_g_X4_choose_31 {σ τ : PS} {k0 : Int32} (h : Fr7 σ τ) : Fr7 σ (g_X4_choose_31 τ k0) := by
  unfold g_X4_choose_31
  try dsimp only
  repeat' first | exact h | (with_reducible refine Fr7.S ?_ (by decide)) | (with_reducible refine Fr7.A ?_ (by decide)) | (with_reducible refine Fr7.G ?_) | (with_reducible refine Fr7.I ?_ ?_) | (with_reducible refine Fr7.I2 ?_ ?_) | (with_reducible refine fr7_g_X4_choose_56 ?_)
theorem fr7_g_X4_choose_26 {σ τ : PS} (h : Fr7 σ τ) : Fr7 σ (g_X4_choose_26 τ) := by
  unfold g_X4_choose_26
  try dsimp only
  repeat' first | exact h | (with_reducible refine Fr7.S ?_ (by decide)) | (with_reducible refine Fr7.A ?_ (by decide)) | (with_reducible refine Fr7.G ?_) | (with_reducible refine Fr7.I ?_ ?_) | (with_reducible refine Fr7.I2 ?_ ?_) | (with_reducible refine fr7_g_X4_choose_31 ?_)
theorem fr7_f_X4_choose {σ τ : PS} {x1 : Int32} {x2 : Int32} (h : Fr7 σ τ) : Fr7 σ (f_X4_choose τ x1 x2) := by
  unfold f_X4_choose
  try dsimp only
  repeat' first | exact h | (with_reducible refine Fr7.S ?_ (by decide)) | (with_reducible refine Fr7.A ?_ (by decide)) | (with_reducible refine Fr7.G ?_) | (with_reducible refine Fr7.I ?_ ?_) | (with_reducible refine Fr7.I2 ?_ ?_) | (with_reducible refine fr7_g_X4_choose_31 ?_) | (with_reducible refine fr7_g_X4_choose_26 ?_)
theorem fr7_f_X6_clear {σ τ : PS} (h : Fr7 σ τ) : Fr7 σ (f_X6_clear τ) := by
  unfold f_X6_clear
  try dsimp only
  repeat' first | exact h | (with_reducible refine Fr7.S ?_ (by decide)) | (with_reducible refine Fr7.A ?_ (by decide)) | (with_reducible refine Fr7.G ?_) | (with_reducible refine Fr7.I ?_ ?_) | (with_reducible refine Fr7.I2 ?_ ?_)
theorem fr7_f_X1_push {σ τ : PS} (h : Fr7 σ τ) : Fr7 σ (f_X1_push τ) := by
  unfold f_X1_push
  try dsimp only
  repeat' first | exact h | (with_reducible refine Fr7.S ?_ (by decide)) | (with_reducible refine Fr7.A ?_ (by decide)) | (with_reducible refine Fr7.G ?_) | (with_reducible refine Fr7.I ?_ ?_) | (with_reducible refine Fr7.I2 ?_ ?_)
theorem fr7_f_X6_put {σ τ : PS} {x1 : Int32} {x2 : Int32} {x3 : Int32} {x4 : Int32} (h : Fr7 σ τ) : Fr7 σ (f_X6_put τ x1 x2 x3 x4) := by
  unfold f_X6_put
  try dsimp only
  repeat' first | exact h | (with_reducible refine Fr7.S ?_ (by decide)) | (with_reducible refine Fr7.A ?_ (by decide)) | (with_reducible refine Fr7.G ?_) | (with_reducible refine Fr7.I ?_ ?_) | (with_reducible refine Fr7.I2 ?_ ?_)
theorem fr7_f_X0_add {σ τ : PS} {x1 : Int32} (h : Fr7 σ τ) : Fr7 σ (f_X0_add τ x1) := by
  unfold f_X0_add
  try dsimp only
  repeat' first | exact h | (with_reducible refine Fr7.S ?_ (by decide)) | (with_reducible refine Fr7.A ?_ (by decide)) | (with_reducible refine Fr7.G ?_) | (with_reducible refine Fr7.I ?_ ?_) | (with_reducible refine Fr7.I2 ?_ ?_)
theorem fr7_f_X7_setX {σ τ : PS} {x1 : Int64} (h : Fr7 σ τ) : Fr7 σ (f_X7_setX τ x1) := by
  unfold f_X7_setX
  try dsimp only
  repeat' first | exact h | (with_reducible refine Fr7.S ?_ (by decide)) | (with_reducible refine Fr7.A ?_ (by decide)) | (with_reducible refine Fr7.G ?_) | (with_reducible refine Fr7.I ?_ ?_) | (with_reducible refine Fr7.I2 ?_ ?_)
theorem fr7_f_X7_setY {σ τ : PS} {x1 : Int64} (h : Fr7 σ τ) : Fr7 σ (f_X7_setY τ x1) := by
  unfold f_X7_setY
  try dsimp only
  repeat' first | exact h | (with_reducible refine Fr7.S ?_ (by decide)) | (with_reducible refine Fr7.A ?_ (by decide)) | (with_reducible refine Fr7.G ?_) | (with_reducible refine Fr7.I ?_ ?_) | (with_reducible refine Fr7.I2 ?_ ?_)
theorem fr7_f_X7_setDefaults {σ τ : PS} (h : Fr7 σ τ) : Fr7 σ (f_X7_setDefaults τ) := by
  unfold f_X7_setDefaults
  try dsimp only
  repeat' first | exact h | (with_reducible refine Fr7.S ?_ (by decide)) | (with_reducible refine Fr7.A ?_ (by decide)) | (with_reducible refine Fr7.G ?_) | (with_reducible refine Fr7.I ?_ ?_) | (with_reducible refine Fr7.I2 ?_ ?_) | (with_reducible refine fr7_f_X7_setY ?_)
theorem fr7_f_X7_reset {σ τ : PS} (h : Fr7 σ τ) : Fr7 σ (f_X7_reset τ) := by
  unfold f_X7_reset
  try dsimp only
  repeat' first | exact h | (with_reducible refine Fr7.S ?_ (by decide)) | (with_reducible refine Fr7.A ?_ (by decide)) | (with_reducible refine Fr7.G ?_) | (with_reducible refine Fr7.I ?_ ?_) | (with_reducible refine Fr7.I2 ?_ ?_) | (with_reducible refine fr7_f_X4_choose ?_) | (with_reducible refine fr7_f_X7_setDefaults ?_)
theorem fr7_f_X7_eject {σ τ : PS} (h : Fr7 σ τ) : Fr7 σ (f_X7_eject τ) := by
  unfold f_X7_eject
  try dsimp only
  repeat' first | exact h | (with_reducible refine Fr7.S ?_ (by decide)) | (with_reducible refine Fr7.A ?_ (by decide)) | (with_reducible refine Fr7.G ?_) | (with_reducible refine Fr7.I ?_ ?_) | (with_reducible refine Fr7.I2 ?_ ?_) | (with_reducible refine fr7_f_X6_clear ?_) | (with_reducible refine fr7_f_X0_add ?_) | (with_reducible refine fr7_f_X7_setY ?_)
theorem fr7_g_X7_changePaper_14 {σ τ : PS} {y1 : Int32} {y2 : Int32} (h : Fr7 σ τ) : Fr7 σ (g_X7_changePaper_14 τ y1 y2) := by
  unfold g_X7_changePaper_14
  try dsimp only
  repeat' first | exact h | (with_reducible refine Fr7.S ?_ (by decide)) | (with_reducible refine Fr7.A ?_ (by decide)) | (with_reducible refine Fr7.G ?_) | (with_reducible refine Fr7.I ?_ ?_) | (with_reducible refine Fr7.I2 ?_ ?_) | (with_reducible refine fr7_f_X4_choose ?_) | (with_reducible refine fr7_f_X7_setDefaults ?_)
theorem fr7_f_X7_changePaper {σ τ : PS} {x1 : Int32} {x2 : Int32} (h : Fr7 σ τ) : Fr7 σ (f_X7_changePaper τ x1 x2) := by
  unfold f_X7_changePaper
  try dsimp only
  repeat' first | exact h | (with_reducible refine Fr7.S ?_ (by decide)) | (with_reducible refine Fr7.A ?_ (by decide)) | (with_reducible refine Fr7.G ?_) | (with_reducible refine Fr7.I ?_ ?_) | (with_reducible refine Fr7.I2 ?_ ?_) | (with_reducible refine fr7_f_X7_eject ?_) | (with_reducible refine fr7_g_X7_changePaper_14 ?_)
theorem fr7_f_X7_carriageReturn {σ τ : PS} (h : Fr7 σ τ) : Fr7 σ (f_X7_carriageReturn τ) := by
  unfold f_X7_carriageReturn
  try dsimp only
  repeat' first | exact h | (with_reducible refine Fr7.S ?_ (by decide)) | (with_reducible refine Fr7.A ?_ (by decide)) | (with_reducible refine Fr7.G ?_) | (with_reducible refine Fr7.I ?_ ?_) | (with_reducible refine Fr7.I2 ?_ ?_)
theorem fr7_f_X7_lineFeed {σ τ : PS} {x1 : Int32} (h : Fr7 σ τ) : Fr7 σ (f_X7_lineFeed τ x1) := by
  unfold f_X7_lineFeed
  try dsimp only
  repeat' first | exact h | (with_reducible refine Fr7.S ?_ (by decide)) | (with_reducible refine Fr7.A ?_ (by decide)) | (with_reducible refine Fr7.G ?_) | (with_reducible refine Fr7.I ?_ ?_) | (with_reducible refine Fr7.I2 ?_ ?_) | (with_reducible refine fr7_f_X7_eject ?_)
theorem fr7_g_X7_character_133 {σ τ : PS} {y3 : Int32} (h : Fr7 σ τ) : Fr7 σ (g_X7_character_133 τ y3) := by
  unfold g_X7_character_133
  try dsimp only
  repeat' first | exact h | (with_reducible refine Fr7.S ?_ (by decide)) | (with_reducible refine Fr7.A ?_ (by decide)) | (with_reducible refine Fr7.G ?_) | (with_reducible refine Fr7.I ?_ ?_) | (with_reducible refine Fr7.I2 ?_ ?_) | (with_reducible refine fr7_f_X7_setX ?_)
theorem fr7_g_X7_character_98 {σ τ : PS} {y1 : Int32} {y3 : Int32} (h : Fr7 σ τ) : Fr7 σ (g_X7_character_98 τ y1 y3) := by
  unfold g_X7_character_98
  try dsimp only
  repeat' first | exact h | (with_reducible refine Fr7.S ?_ (by decide)) | (with_reducible refine Fr7.A ?_ (by decide)) | (with_reducible refine Fr7.G ?_) | (with_reducible refine Fr7.I ?_ ?_) | (with_reducible refine Fr7.I2 ?_ ?_) | (with_reducible refine fr7_f_X6_put ?_) | (with_reducible refine fr7_g_X7_character_133 ?_)
theorem fr7_g_X7_character_72 {σ τ : PS} {y1 : Int32} {y3 : Int32} (h : Fr7 σ τ) : Fr7 σ (g_X7_character_72 τ y1 y3) := by
  unfold g_X7_character_72
  try dsimp only
  repeat' first | exact h | (with_reducible refine Fr7.S ?_ (by decide)) | (with_reducible refine Fr7.A ?_ (by decide)) | (with_reducible refine Fr7.G ?_) | (with_reducible refine Fr7.I ?_ ?_) | (with_reducible refine Fr7.I2 ?_ ?_) | (with_reducible refine fr7_f_X7_carriageReturn ?_) | (with_reducible refine fr7_f_X7_lineFeed ?_) | (with_reducible refine fr7_g_X7_character_98 ?_)
theorem fr7_g_X7_character_35 {σ τ : PS} {y1 : Int32} {k0 : Int32} (h : Fr7 σ τ) : Fr7 σ (g_X7_character_35 τ y1 k0) := by
  unfold g_X7_character_35
  try dsimp only
  repeat' first | exact h | (with_reducible refine Fr7.S ?_ (by decide)) | (with_reducible refine Fr7.A ?_ (by decide)) | (with_reducible refine Fr7.G ?_) | (with_reducible refine Fr7.I ?_ ?_) | (with_reducible refine Fr7.I2 ?_ ?_) | (with_reducible refine fr7_g_X7_character_98 ?_) | (with_reducible refine fr7_g_X7_character_72 ?_)
theorem fr7_f_X7_character {σ τ : PS} {x1 : Int32} (h : Fr7 σ τ) : Fr7 σ (f_X7_character τ x1) := by
  unfold f_X7_character
  try dsimp only
  repeat' first | exact h | (with_reducible refine Fr7.S ?_ (by decide)) | (with_reducible refine Fr7.A ?_ (by decide)) | (with_reducible refine Fr7.G ?_) | (with_reducible refine Fr7.I ?_ ?_) | (with_reducible refine Fr7.I2 ?_ ?_) | (with_reducible refine fr7_g_X7_character_35 ?_)
theorem fr7_g_X7_backspace_28 {σ τ : PS} {k0 : Int32} (h : Fr7 σ τ) : Fr7 σ (g_X7_backspace_28 τ k0) := by
  unfold g_X7_backspace_28
  try dsimp only
  repeat' first | exact h | (with_reducible refine Fr7.S ?_ (by decide)) | (with_reducible refine Fr7.A ?_ (by decide)) | (with_reducible refine Fr7.G ?_) | (with_reducible refine Fr7.I ?_ ?_) | (with_reducible refine Fr7.I2 ?_ ?_) | (with_reducible refine fr7_f_X7_setX ?_)
theorem fr7_f_X7_backspace {σ τ : PS} (h : Fr7 σ τ) : Fr7 σ (f_X7_backspace τ) := by
  unfold f_X7_backspace
  try dsimp only
  repeat' first | exact h | (with_reducible refine Fr7.S ?_ (by decide)) | (with_reducible refine Fr7.A ?_ (by decide)) | (with_reducible refine Fr7.G ?_) | (with_reducible refine Fr7.I ?_ ?_) | (with_reducible refine Fr7.I2 ?_ ?_) | (with_reducible refine fr7_g_X7_backspace_28 ?_)
theorem fr7_f_X7_tab {σ τ : PS} (h : Fr7 σ τ) : Fr7 σ (f_X7_tab τ) := by
  unfold f_X7_tab
  try dsimp only
  repeat' first | exact h | (with_reducible refine Fr7.S ?_ (by decide)) | (with_reducible refine Fr7.A ?_ (by decide)) | (with_reducible refine Fr7.G ?_) | (with_reducible refine Fr7.I ?_ ?_) | (with_reducible refine Fr7.I2 ?_ ?_) | (with_reducible refine fr7_f_X7_setX ?_)
theorem fr7_f_X7_returnIfLineEndsSo {σ τ : PS} (h : Fr7 σ τ) : Fr7 σ (f_X7_returnIfLineEndsSo τ) := by
  unfold f_X7_returnIfLineEndsSo
  try dsimp only
  repeat' first | exact h | (with_reducible refine Fr7.S ?_ (by decide)) | (with_reducible refine Fr7.A ?_ (by decide)) | (with_reducible refine Fr7.G ?_) | (with_reducible refine Fr7.I ?_ ?_) | (with_reducible refine Fr7.I2 ?_ ?_) | (with_reducible refine fr7_f_X7_carriageReturn ?_)
theorem fr7_g_X7_returnWithLineEnd_26 {σ τ : PS} (h : Fr7 σ τ) : Fr7 σ (g_X7_returnWithLineEnd_26 τ) := by
  unfold g_X7_returnWithLineEnd_26
  try dsimp only
  repeat' first | exact h | (with_reducible refine Fr7.S ?_ (by decide)) | (with_reducible refine Fr7.A ?_ (by decide)) | (with_reducible refine Fr7.G ?_) | (with_reducible refine Fr7.I ?_ ?_) | (with_reducible refine Fr7.I2 ?_ ?_) | (with_reducible refine fr7_f_X7_lineFeed ?_)
theorem fr7_f_X7_returnWithLineEnd {σ τ : PS} (h : Fr7 σ τ) : Fr7 σ (f_X7_returnWithLineEnd τ) := by
  unfold f_X7_returnWithLineEnd
  try dsimp only
  repeat' first | exact h | (with_reducible refine Fr7.S ?_ (by decide)) | (with_reducible refine Fr7.A ?_ (by decide)) | (with_reducible refine Fr7.G ?_) | (with_reducible refine Fr7.I ?_ ?_) | (with_reducible refine Fr7.I2 ?_ ?_) | (with_reducible refine fr7_f_X7_carriageReturn ?_) | (with_reducible refine fr7_g_X7_returnWithLineEnd_26 ?_)
theorem fr7_f_X7_controlCode {σ τ : PS} {x1 : Int32} (h : Fr7 σ τ) : Fr7 σ (f_X7_controlCode τ x1) := by
  unfold f_X7_controlCode
  try dsimp only
  repeat' first | exact h | (with_reducible refine Fr7.S ?_ (by decide)) | (with_reducible refine Fr7.A ?_ (by decide)) | (with_reducible refine Fr7.G ?_) | (with_reducible refine Fr7.I ?_ ?_) | (with_reducible refine Fr7.I2 ?_ ?_) | (with_reducible refine fr7_f_X7_eject ?_) | (with_reducible refine fr7_f_X7_lineFeed ?_) | (with_reducible refine fr7_f_X7_backspace ?_) | (with_reducible refine fr7_f_X7_tab ?_) | (with_reducible refine fr7_f_X7_returnIfLineEndsSo ?_) | (with_reducible refine fr7_f_X7_returnWithLineEnd ?_)
theorem fr7_f_X7_shortSequence {σ τ : PS} {x1 : Int32} (h : Fr7 σ τ) : Fr7 σ (f_X7_shortSequence τ x1) := by
  unfold f_X7_shortSequence
  try dsimp only
  repeat' first | exact h | (with_reducible refine Fr7.S ?_ (by decide)) | (with_reducible refine Fr7.A ?_ (by decide)) | (with_reducible refine Fr7.G ?_) | (with_reducible refine Fr7.I ?_ ?_) | (with_reducible refine Fr7.I2 ?_ ?_) | (with_reducible refine fr7_f_X7_reset ?_) | (with_reducible refine fr7_f_X7_eject ?_) | (with_reducible refine fr7_f_X7_lineFeed ?_)
theorem fr7_f_X7_setStepDown {σ τ : PS} {x1 : Int64} (h : Fr7 σ τ) : Fr7 σ (f_X7_setStepDown τ x1) := by
  unfold f_X7_setStepDown
  try dsimp only
  repeat' first | exact h | (with_reducible refine Fr7.S ?_ (by decide)) | (with_reducible refine Fr7.A ?_ (by decide)) | (with_reducible refine Fr7.G ?_) | (with_reducible refine Fr7.I ?_ ?_) | (with_reducible refine Fr7.I2 ?_ ?_)
theorem fr7_f_X7_setLinesPerInch {σ τ : PS} {x1 : Int32} (h : Fr7 σ τ) : Fr7 σ (f_X7_setLinesPerInch τ x1) := by
  unfold f_X7_setLinesPerInch
  try dsimp only
  repeat' first | exact h | (with_reducible refine Fr7.S ?_ (by decide)) | (with_reducible refine Fr7.A ?_ (by decide)) | (with_reducible refine Fr7.G ?_) | (with_reducible refine Fr7.I ?_ ?_) | (with_reducible refine Fr7.I2 ?_ ?_)
theorem fr7_f_X7_setTop {σ τ : PS} {x1 : Int64} (h : Fr7 σ τ) : Fr7 σ (f_X7_setTop τ x1) := by
  unfold f_X7_setTop
  try dsimp only
  repeat' first | exact h | (with_reducible refine Fr7.S ?_ (by decide)) | (with_reducible refine Fr7.A ?_ (by decide)) | (with_reducible refine Fr7.G ?_) | (with_reducible refine Fr7.I ?_ ?_) | (with_reducible refine Fr7.I2 ?_ ?_)
theorem fr7_f_X7_setLength {σ τ : PS} {x1 : Int64} (h : Fr7 σ τ) : Fr7 σ (f_X7_setLength τ x1) := by
  unfold f_X7_setLength
  try dsimp only
  repeat' first | exact h | (with_reducible refine Fr7.S ?_ (by decide)) | (with_reducible refine Fr7.A ?_ (by decide)) | (with_reducible refine Fr7.G ?_) | (with_reducible refine Fr7.I ?_ ?_) | (with_reducible refine Fr7.I2 ?_ ?_)
theorem fr7_f_X7_spacingCommand {σ τ : PS} {x1 : Int64} {x3 : Int64} (h : Fr7 σ τ) : Fr7 σ (f_X7_spacingCommand τ x1 x3).1 := by
  unfold f_X7_spacingCommand
  try dsimp only
  repeat' first | exact h | (with_reducible refine Fr7.S ?_ (by decide)) | (with_reducible refine Fr7.A ?_ (by decide)) | (with_reducible refine Fr7.G ?_) | (with_reducible refine Fr7.I ?_ ?_) | (with_reducible refine Fr7.I2 ?_ ?_)
theorem fr7_f_X7_setLeft {σ τ : PS} {x1 : Int64} (h : Fr7 σ τ) : Fr7 σ (f_X7_setLeft τ x1) := by
  unfold f_X7_setLeft
  try dsimp only
  repeat' first | exact h | (with_reducible refine Fr7.S ?_ (by decide)) | (with_reducible refine Fr7.A ?_ (by decide)) | (with_reducible refine Fr7.G ?_) | (with_reducible refine Fr7.I ?_ ?_) | (with_reducible refine Fr7.I2 ?_ ?_)
theorem fr7_f_X7_setRight {σ τ : PS} {x1 : Int64} (h : Fr7 σ τ) : Fr7 σ (f_X7_setRight τ x1) := by
  unfold f_X7_setRight
  try dsimp only
  repeat' first | exact h | (with_reducible refine Fr7.S ?_ (by decide)) | (with_reducible refine Fr7.A ?_ (by decide)) | (with_reducible refine Fr7.G ?_) | (with_reducible refine Fr7.I ?_ ?_) | (with_reducible refine Fr7.I2 ?_ ?_)
theorem fr7_f_X7_marginCommand {σ τ : PS} {x1 : Int64} (h : Fr7 σ τ) : Fr7 σ (f_X7_marginCommand τ x1).1 := by
  unfold f_X7_marginCommand
  try dsimp only
  repeat' first | exact h | (with_reducible refine Fr7.S ?_ (by decide)) | (with_reducible refine Fr7.A ?_ (by decide)) | (with_reducible refine Fr7.G ?_) | (with_reducible refine Fr7.I ?_ ?_) | (with_reducible refine Fr7.I2 ?_ ?_) | (with_reducible refine fr7_f_X7_setLeft ?_) | (with_reducible refine fr7_f_X7_setRight ?_)
theorem fr7_f_X7_wrapCommand {σ τ : PS} {x1 : Int64} (h : Fr7 σ τ) : Fr7 σ (f_X7_wrapCommand τ x1).1 := by
  unfold f_X7_wrapCommand
  try dsimp only
  repeat' first | exact h | (with_reducible refine Fr7.S ?_ (by decide)) | (with_reducible refine Fr7.A ?_ (by decide)) | (with_reducible refine Fr7.G ?_) | (with_reducible refine Fr7.I ?_ ?_) | (with_reducible refine Fr7.I2 ?_ ?_)
theorem fr7_f_X7_stackCommand {σ τ : PS} {x1 : Int64} (h : Fr7 σ τ) : Fr7 σ (f_X7_stackCommand τ x1).1 := by
  unfold f_X7_stackCommand
  try dsimp only
  repeat' first | exact h | (with_reducible refine Fr7.S ?_ (by decide)) | (with_reducible refine Fr7.A ?_ (by decide)) | (with_reducible refine Fr7.G ?_) | (with_reducible refine Fr7.I ?_ ?_) | (with_reducible refine Fr7.I2 ?_ ?_) | (with_reducible refine fr7_f_X1_push ?_) | (with_reducible refine fr7_f_X7_setX ?_) | (with_reducible refine fr7_f_X7_setY ?_)
theorem fr7_g_X7_goAcross_21 {σ τ : PS} {y1 : Int64} {k0 : Int32} (h : Fr7 σ τ) : Fr7 σ (g_X7_goAcross_21 τ y1 k0) := by
  unfold g_X7_goAcross_21
  try dsimp only
  repeat' first | exact h | (with_reducible refine Fr7.S ?_ (by decide)) | (with_reducible refine Fr7.A ?_ (by decide)) | (with_reducible refine Fr7.G ?_) | (with_reducible refine Fr7.I ?_ ?_) | (with_reducible refine Fr7.I2 ?_ ?_) | (with_reducible refine fr7_f_X7_setX ?_)
theorem fr7_f_X7_goAcross {σ τ : PS} {x1 : Int64} (h : Fr7 σ τ) : Fr7 σ (f_X7_goAcross τ x1) := by
  unfold f_X7_goAcross
  try dsimp only
  repeat' first | exact h | (with_reducible refine Fr7.S ?_ (by decide)) | (with_reducible refine Fr7.A ?_ (by decide)) | (with_reducible refine Fr7.G ?_) | (with_reducible refine Fr7.I ?_ ?_) | (with_reducible refine Fr7.I2 ?_ ?_) | (with_reducible refine fr7_g_X7_goAcross_21 ?_)
theorem fr7_g_X7_goDown_21 {σ τ : PS} {y2 : Int64} {k0 : Int32} (h : Fr7 σ τ) : Fr7 σ (g_X7_goDown_21 τ y2 k0) := by
  unfold g_X7_goDown_21
  try dsimp only
  repeat' first | exact h | (with_reducible refine Fr7.S ?_ (by decide)) | (with_reducible refine Fr7.A ?_ (by decide)) | (with_reducible refine Fr7.G ?_) | (with_reducible refine Fr7.I ?_ ?_) | (with_reducible refine Fr7.I2 ?_ ?_) | (with_reducible refine fr7_f_X7_setY ?_)
theorem fr7_f_X7_goDown {σ τ : PS} {x1 : Int32} {x2 : Int64} (h : Fr7 σ τ) : Fr7 σ (f_X7_goDown τ x1 x2) := by
  unfold f_X7_goDown
  try dsimp only
  repeat' first | exact h | (with_reducible refine Fr7.S ?_ (by decide)) | (with_reducible refine Fr7.A ?_ (by decide)) | (with_reducible refine Fr7.G ?_) | (with_reducible refine Fr7.I ?_ ?_) | (with_reducible refine Fr7.I2 ?_ ?_) | (with_reducible refine fr7_g_X7_goDown_21 ?_)
theorem fr7_f_X7_cursorCommand {σ τ : PS} (h : Fr7 σ τ) : Fr7 σ (f_X7_cursorCommand τ).1 := by
  unfold f_X7_cursorCommand
  try dsimp only
  repeat' first | exact h | (with_reducible refine Fr7.S ?_ (by decide)) | (with_reducible refine Fr7.A ?_ (by decide)) | (with_reducible refine Fr7.G ?_) | (with_reducible refine Fr7.I ?_ ?_) | (with_reducible refine Fr7.I2 ?_ ?_) | (with_reducible refine fr7_f_X7_goAcross ?_) | (with_reducible refine fr7_f_X7_goDown ?_)
theorem fr7_f_X7_dotCommand {σ τ : PS} (h : Fr7 σ τ) : Fr7 σ (f_X7_dotCommand τ).1 := by
  unfold f_X7_dotCommand
  try dsimp only
  repeat' first | exact h | (with_reducible refine Fr7.S ?_ (by decide)) | (with_reducible refine Fr7.A ?_ (by decide)) | (with_reducible refine Fr7.G ?_) | (with_reducible refine Fr7.I ?_ ?_) | (with_reducible refine Fr7.I2 ?_ ?_) | (with_reducible refine fr7_f_X7_goAcross ?_) | (with_reducible refine fr7_f_X7_goDown ?_)
theorem fr7_f_X7_pageCommand {σ τ : PS} {x1 : Int64} {x3 : Int64} (h : Fr7 σ τ) : Fr7 σ (f_X7_pageCommand τ x1 x3).1 := by
  unfold f_X7_pageCommand
  try dsimp only
  repeat' first | exact h | (with_reducible refine Fr7.S ?_ (by decide)) | (with_reducible refine Fr7.A ?_ (by decide)) | (with_reducible refine Fr7.G ?_) | (with_reducible refine Fr7.I ?_ ?_) | (with_reducible refine Fr7.I2 ?_ ?_) | (with_reducible refine fr7_f_X7_changePaper ?_) | (with_reducible refine fr7_f_X7_setStepDown ?_) | (with_reducible refine fr7_f_X7_setLinesPerInch ?_) | (with_reducible refine fr7_f_X7_setTop ?_) | (with_reducible refine fr7_f_X7_setLength ?_)
theorem fr8_g_X8_measure_46 {σ τ : PS} {y1 : Int32} {k0 : Int32} (h : Fr8 σ τ) : Fr8 σ (g_X8_measure_46 τ y1 k0) := by
  unfold g_X8_measure_46
  try dsimp only
  repeat' first | exact h | (with_reducible refine Fr8.S ?_ (by decide)) | (with_reducible refine Fr8.A ?_ (by decide)) | (with_reducible refine Fr8.I ?_ ?_) | (with_reducible refine Fr8.I2 ?_ ?_)
theorem fr8_g_X8_measure_15 {σ τ : PS} {k0 : Int32} (h : Fr8 σ τ) : Fr8 σ (g_X8_measure_15 τ k0) := by
  unfold g_X8_measure_15
  try dsimp only
  repeat' first | exact h | (with_reducible refine Fr8.S ?_ (by decide)) | (with_reducible refine Fr8.A ?_ (by decide)) | (with_reducible refine Fr8.I ?_ ?_) | (with_reducible refine Fr8.I2 ?_ ?_) | (with_reducible refine fr8_g_X8_measure_46 ?_)
theorem fr8_f_X8_measure {σ τ : PS} (h : Fr8 σ τ) : Fr8 σ (f_X8_measure τ) := by
  unfold f_X8_measure
  try dsimp only
  repeat' first | exact h | (with_reducible refine Fr8.S ?_ (by decide)) | (with_reducible refine Fr8.A ?_ (by decide)) | (with_reducible refine Fr8.I ?_ ?_) | (with_reducible refine Fr8.I2 ?_ ?_) | (with_reducible refine fr8_g_X8_measure_15 ?_)
theorem fr8_f_X8_setX {σ τ : PS} {x1 : Int64} (h : Fr8 σ τ) : Fr8 σ (f_X8_setX τ x1) := by
  unfold f_X8_setX
  try dsimp only
  repeat' first | exact h | (with_reducible refine Fr8.S ?_ (by decide)) | (with_reducible refine Fr8.A ?_ (by decide)) | (with_reducible refine Fr8.I ?_ ?_) | (with_reducible refine Fr8.I2 ?_ ?_)
theorem fr8_f_X8_setY {σ τ : PS} {x1 : Int64} (h : Fr8 σ τ) : Fr8 σ (f_X8_setY τ x1) := by
  unfold f_X8_setY
  try dsimp only
  repeat' first | exact h | (with_reducible refine Fr8.S ?_ (by decide)) | (with_reducible refine Fr8.A ?_ (by decide)) | (with_reducible refine Fr8.I ?_ ?_) | (with_reducible refine Fr8.I2 ?_ ?_)
theorem fr8_f_X8_defaults {σ τ : PS} (h : Fr8 σ τ) : Fr8 σ (f_X8_defaults τ) := by
  unfold f_X8_defaults
  try dsimp only
  repeat' first | exact h | (with_reducible refine Fr8.S ?_ (by decide)) | (with_reducible refine Fr8.A ?_ (by decide)) | (with_reducible refine Fr8.I ?_ ?_) | (with_reducible refine Fr8.I2 ?_ ?_) | (with_reducible refine fr8_f_X8_measure ?_) | (with_reducible refine fr8_f_X8_setX ?_) | (with_reducible refine fr8_f_X8_setY ?_)
theorem fr8_f_X8_eject {σ τ : PS} (h : Fr8 σ τ) : Fr8 σ (f_X8_eject τ) := by
  unfold f_X8_eject
  try dsimp only
  repeat' first | exact h | (with_reducible refine Fr8.S ?_ (by decide)) | (with_reducible refine Fr8.A ?_ (by decide)) | (with_reducible refine Fr8.I ?_ ?_) | (with_reducible refine Fr8.I2 ?_ ?_) | (with_reducible refine fr8_f_X8_setY ?_)
theorem fr8_f_X8_ejectIfDue {σ τ : PS} (h : Fr8 σ τ) : Fr8 σ (f_X8_ejectIfDue τ) := by
  unfold f_X8_ejectIfDue
  try dsimp only
  repeat' first | exact h | (with_reducible refine Fr8.S ?_ (by decide)) | (with_reducible refine Fr8.A ?_ (by decide)) | (with_reducible refine Fr8.I ?_ ?_) | (with_reducible refine Fr8.I2 ?_ ?_) | (with_reducible refine fr8_f_X8_eject ?_)
theorem fr8_f_X8_lineFeed {σ τ : PS} {x1 : Int32} (h : Fr8 σ τ) : Fr8 σ (f_X8_lineFeed τ x1) := by
  unfold f_X8_lineFeed
  try dsimp only
  repeat' first | exact h | (with_reducible refine Fr8.S ?_ (by decide)) | (with_reducible refine Fr8.A ?_ (by decide)) | (with_reducible refine Fr8.I ?_ ?_) | (with_reducible refine Fr8.I2 ?_ ?_) | (with_reducible refine fr8_f_X8_setY ?_) | (with_reducible refine fr8_f_X8_eject ?_)
theorem fr8_f_X8_carriageReturn {σ τ : PS} (h : Fr8 σ τ) : Fr8 σ (f_X8_carriageReturn τ) := by
  unfold f_X8_carriageReturn
  try dsimp only
  repeat' first | exact h | (with_reducible refine Fr8.S ?_ (by decide)) | (with_reducible refine Fr8.A ?_ (by decide)) | (with_reducible refine Fr8.I ?_ ?_) | (with_reducible refine Fr8.I2 ?_ ?_) | (with_reducible refine fr8_f_X8_setX ?_)
theorem fr8_g_X8_character_203 {σ τ : PS} {y3 : Int32} (h : Fr8 σ τ) : Fr8 σ (g_X8_character_203 τ y3) := by
  unfold g_X8_character_203
  try dsimp only
  repeat' first | exact h | (with_reducible refine Fr8.S ?_ (by decide)) | (with_reducible refine Fr8.A ?_ (by decide)) | (with_reducible refine Fr8.I ?_ ?_) | (with_reducible refine Fr8.I2 ?_ ?_) | (with_reducible refine fr8_f_X8_setX ?_)
theorem fr8_g_X8_character_193 {σ τ : PS} {y3 : Int32} (h : Fr8 σ τ) : Fr8 σ (g_X8_character_193 τ y3) := by
  unfold g_X8_character_193
  try dsimp only
  repeat' first | exact h | (with_reducible refine Fr8.S ?_ (by decide)) | (with_reducible refine Fr8.A ?_ (by decide)) | (with_reducible refine Fr8.I ?_ ?_) | (with_reducible refine Fr8.I2 ?_ ?_) | (with_reducible refine fr8_g_X8_character_203 ?_)
theorem fr8_g_X8_character_97 {σ τ : PS} {y1 : Int32} {y3 : Int32} (h : Fr8 σ τ) : Fr8 σ (g_X8_character_97 τ y1 y3) := by
  unfold g_X8_character_97
  try dsimp only
  repeat' first | exact h | (with_reducible refine Fr8.S ?_ (by decide)) | (with_reducible refine Fr8.A ?_ (by decide)) | (with_reducible refine Fr8.I ?_ ?_) | (with_reducible refine Fr8.I2 ?_ ?_) | (with_reducible refine fr8_g_X8_character_203 ?_) | (with_reducible refine fr8_g_X8_character_193 ?_)
theorem fr8_g_X8_character_71 {σ τ : PS} {y1 : Int32} {y3 : Int32} (h : Fr8 σ τ) : Fr8 σ (g_X8_character_71 τ y1 y3) := by
  unfold g_X8_character_71
  try dsimp only
  repeat' first | exact h | (with_reducible refine Fr8.S ?_ (by decide)) | (with_reducible refine Fr8.A ?_ (by decide)) | (with_reducible refine Fr8.I ?_ ?_) | (with_reducible refine Fr8.I2 ?_ ?_) | (with_reducible refine fr8_f_X8_lineFeed ?_) | (with_reducible refine fr8_f_X8_carriageReturn ?_) | (with_reducible refine fr8_g_X8_character_97 ?_)
theorem fr8_g_X8_character_34 {σ τ : PS} {y1 : Int32} {k0 : Int32} (h : Fr8 σ τ) : Fr8 σ (g_X8_character_34 τ y1 k0) := by
  unfold g_X8_character_34
  try dsimp only
  repeat' first | exact h | (with_reducible refine Fr8.S ?_ (by decide)) | (with_reducible refine Fr8.A ?_ (by decide)) | (with_reducible refine Fr8.I ?_ ?_) | (with_reducible refine Fr8.I2 ?_ ?_) | (with_reducible refine fr8_g_X8_character_97 ?_) | (with_reducible refine fr8_g_X8_character_71 ?_)
theorem fr8_f_X8_character {σ τ : PS} {x1 : Int32} (h : Fr8 σ τ) : Fr8 σ (f_X8_character τ x1) := by
  unfold f_X8_character
  try dsimp only
  repeat' first | exact h | (with_reducible refine Fr8.S ?_ (by decide)) | (with_reducible refine Fr8.A ?_ (by decide)) | (with_reducible refine Fr8.I ?_ ?_) | (with_reducible refine Fr8.I2 ?_ ?_) | (with_reducible refine fr8_g_X8_character_34 ?_)
theorem fr8_f_X8_tab {σ τ : PS} (h : Fr8 σ τ) : Fr8 σ (f_X8_tab τ) := by
  unfold f_X8_tab
  try dsimp only
  repeat' first | exact h | (with_reducible refine Fr8.S ?_ (by decide)) | (with_reducible refine Fr8.A ?_ (by decide)) | (with_reducible refine Fr8.I ?_ ?_) | (with_reducible refine Fr8.I2 ?_ ?_) | (with_reducible refine fr8_f_X8_setX ?_)
theorem fr8_g_X8_control_122 {σ τ : PS} {y1 : Int32} (h : Fr8 σ τ) : Fr8 σ (g_X8_control_122 τ y1) := by
  unfold g_X8_control_122
  try dsimp only
  repeat' first | exact h | (with_reducible refine Fr8.S ?_ (by decide)) | (with_reducible refine Fr8.A ?_ (by decide)) | (with_reducible refine Fr8.I ?_ ?_) | (with_reducible refine Fr8.I2 ?_ ?_) | (with_reducible refine fr8_f_X8_eject ?_) | (with_reducible refine fr8_f_X8_lineFeed ?_)
theorem fr8_g_X8_control_114 {σ τ : PS} {y1 : Int32} {y2 : Int32} (h : Fr8 σ τ) : Fr8 σ (g_X8_control_114 τ y1 y2) := by
  unfold g_X8_control_114
  try dsimp only
  repeat' first | exact h | (with_reducible refine Fr8.S ?_ (by decide)) | (with_reducible refine Fr8.A ?_ (by decide)) | (with_reducible refine Fr8.I ?_ ?_) | (with_reducible refine Fr8.I2 ?_ ?_) | (with_reducible refine fr8_f_X8_carriageReturn ?_) | (with_reducible refine fr8_g_X8_control_122 ?_)
theorem fr8_g_X8_control_48 {σ τ : PS} {k0 : Int32} (h : Fr8 σ τ) : Fr8 σ (g_X8_control_48 τ k0) := by
  unfold g_X8_control_48
  try dsimp only
  repeat' first | exact h | (with_reducible refine Fr8.S ?_ (by decide)) | (with_reducible refine Fr8.A ?_ (by decide)) | (with_reducible refine Fr8.I ?_ ?_) | (with_reducible refine Fr8.I2 ?_ ?_) | (with_reducible refine fr8_f_X8_setX ?_)
theorem fr8_f_X8_control {σ τ : PS} {x1 : Int32} (h : Fr8 σ τ) : Fr8 σ (f_X8_control τ x1) := by
  unfold f_X8_control
  try dsimp only
  repeat' first | exact h | (with_reducible refine Fr8.S ?_ (by decide)) | (with_reducible refine Fr8.A ?_ (by decide)) | (with_reducible refine Fr8.I ?_ ?_) | (with_reducible refine Fr8.I2 ?_ ?_) | (with_reducible refine fr8_f_X8_lineFeed ?_) | (with_reducible refine fr8_f_X8_carriageReturn ?_) | (with_reducible refine fr8_f_X8_tab ?_) | (with_reducible refine fr8_g_X8_control_114 ?_) | (with_reducible refine fr8_g_X8_control_48 ?_)
theorem fr8_g_X8_reset_2 {σ : PS} : ∀ (n : Nat) (τ : PS) (y : Int32), Fr8 σ τ → Fr8 σ (g_X8_reset_2 n τ y)
  | 0, τ, y, h => h
  | n + 1, τ, y, h => by
    unfold g_X8_reset_2
    dsimp only
    refine Fr8.I ?_ ?_
    · refine fr8_f_X8_defaults ?_
      refine Fr8.A (Fr8.A (Fr8.S (Fr8.S (Fr8.S h (by decide)) (by decide)) (by decide)) (by decide)) (by decide)
    · exact fr8_g_X8_reset_2 n _ _ (Fr8.A h (by decide))
theorem fr8_f_X8_reset {σ τ : PS} (h : Fr8 σ τ) : Fr8 σ (f_X8_reset τ) := fr8_g_X8_reset_2 54 τ 0 h
theorem fr8_f_X8_shortSequence {σ τ : PS} {x1 : Int32} (h : Fr8 σ τ) : Fr8 σ (f_X8_shortSequence τ x1) := by
  unfold f_X8_shortSequence
  try dsimp only
  repeat' first | exact h | (with_reducible refine Fr8.S ?_ (by decide)) | (with_reducible refine Fr8.A ?_ (by decide)) | (with_reducible refine Fr8.I ?_ ?_) | (with_reducible refine Fr8.I2 ?_ ?_) | (with_reducible refine fr8_f_X8_ejectIfDue ?_) | (with_reducible refine fr8_f_X8_lineFeed ?_) | (with_reducible refine fr8_f_X8_reset ?_)
theorem fr8_f_X8_stack {σ τ : PS} {x1 : Int32} (h : Fr8 σ τ) : Fr8 σ (f_X8_stack τ x1) := by
  unfold f_X8_stack
  try dsimp only
  repeat' first | exact h | (with_reducible refine Fr8.S ?_ (by decide)) | (with_reducible refine Fr8.A ?_ (by decide)) | (with_reducible refine Fr8.I ?_ ?_) | (with_reducible refine Fr8.I2 ?_ ?_) | (with_reducible refine fr8_f_X8_setX ?_) | (with_reducible refine fr8_f_X8_setY ?_)
theorem fr8_g_X8_cursor_261 {σ τ : PS} {y3 : Int64} {y7 : Int64} {k0 : Int32} (h : Fr8 σ τ) : Fr8 σ (g_X8_cursor_261 τ y3 y7 k0).1 := by
  unfold g_X8_cursor_261
  try dsimp only
  repeat' first | exact h | (with_reducible refine Fr8.S ?_ (by decide)) | (with_reducible refine Fr8.A ?_ (by decide)) | (with_reducible refine Fr8.I ?_ ?_) | (with_reducible refine Fr8.I2 ?_ ?_) | (with_reducible refine fr8_f_X8_setY ?_)
theorem fr8_g_X8_cursor_162 {σ τ : PS} {y1 : Int32} {y2 : Int32} {y3 : Int64} {y5 : Int32} {k0 : Int64} (h : Fr8 σ τ) : Fr8 σ (g_X8_cursor_162 τ y1 y2 y3 y5 k0).1 := by
  unfold g_X8_cursor_162
  try dsimp only
  repeat' first | exact h | (with_reducible refine Fr8.S ?_ (by decide)) | (with_reducible refine Fr8.A ?_ (by decide)) | (with_reducible refine Fr8.I ?_ ?_) | (with_reducible refine Fr8.I2 ?_ ?_) | (with_reducible refine fr8_f_X8_setX ?_) | (with_reducible refine fr8_f_X8_setY ?_) | (with_reducible refine fr8_g_X8_cursor_261 ?_)
theorem fr8_g_X8_cursor_110 {σ τ : PS} {y1 : Int32} {y2 : Int32} {y3 : Int64} {y5 : Int32} (h : Fr8 σ τ) : Fr8 σ (g_X8_cursor_110 τ y1 y2 y3 y5).1 := by
  unfold g_X8_cursor_110
  try dsimp only
  repeat' first | exact h | (with_reducible refine Fr8.S ?_ (by decide)) | (with_reducible refine Fr8.A ?_ (by decide)) | (with_reducible refine Fr8.I ?_ ?_) | (with_reducible refine Fr8.I2 ?_ ?_) | (with_reducible refine fr8_g_X8_cursor_162 ?_)
theorem fr8_g_X8_cursor_96 {σ τ : PS} {y1 : Int32} {y2 : Int32} {y3 : Int64} {y5 : Int32} {k0 : Int32} (h : Fr8 σ τ) : Fr8 σ (g_X8_cursor_96 τ y1 y2 y3 y5 k0).1 := by
  unfold g_X8_cursor_96
  try dsimp only
  repeat' first | exact h | (with_reducible refine Fr8.S ?_ (by decide)) | (with_reducible refine Fr8.A ?_ (by decide)) | (with_reducible refine Fr8.I ?_ ?_) | (with_reducible refine Fr8.I2 ?_ ?_) | (with_reducible refine fr8_g_X8_cursor_110 ?_)
theorem fr8_g_X8_cursor_91 {σ τ : PS} {y1 : Int32} {y2 : Int32} {y3 : Int64} {y5 : Int32} (h : Fr8 σ τ) : Fr8 σ (g_X8_cursor_91 τ y1 y2 y3 y5).1 := by
  unfold g_X8_cursor_91
  try dsimp only
  repeat' first | exact h | (with_reducible refine Fr8.S ?_ (by decide)) | (with_reducible refine Fr8.A ?_ (by decide)) | (with_reducible refine Fr8.I ?_ ?_) | (with_reducible refine Fr8.I2 ?_ ?_) | (with_reducible refine fr8_g_X8_cursor_96 ?_)
theorem fr8_g_X8_cursor_47 {σ τ : PS} {y1 : Int32} {y2 : Int32} {y3 : Int64} {k0 : Int32} (h : Fr8 σ τ) : Fr8 σ (g_X8_cursor_47 τ y1 y2 y3 k0).1 := by
  unfold g_X8_cursor_47
  try dsimp only
  repeat' first | exact h | (with_reducible refine Fr8.S ?_ (by decide)) | (with_reducible refine Fr8.A ?_ (by decide)) | (with_reducible refine Fr8.I ?_ ?_) | (with_reducible refine Fr8.I2 ?_ ?_) | (with_reducible refine fr8_g_X8_cursor_96 ?_) | (with_reducible refine fr8_g_X8_cursor_91 ?_)
theorem fr8_g_X8_cursor_42 {σ τ : PS} {y1 : Int32} {y2 : Int32} {y3 : Int64} (h : Fr8 σ τ) : Fr8 σ (g_X8_cursor_42 τ y1 y2 y3).1 := by
  unfold g_X8_cursor_42
  try dsimp only
  repeat' first | exact h | (with_reducible refine Fr8.S ?_ (by decide)) | (with_reducible refine Fr8.A ?_ (by decide)) | (with_reducible refine Fr8.I ?_ ?_) | (with_reducible refine Fr8.I2 ?_ ?_) | (with_reducible refine fr8_g_X8_cursor_47 ?_)
theorem fr8_f_X8_cursor {σ τ : PS} {x1 : Int32} {x2 : Int32} {x3 : Int64} (h : Fr8 σ τ) : Fr8 σ (f_X8_cursor τ x1 x2 x3).1 := by
  unfold f_X8_cursor
  try dsimp only
  repeat' first | exact h | (with_reducible refine Fr8.S ?_ (by decide)) | (with_reducible refine Fr8.A ?_ (by decide)) | (with_reducible refine Fr8.I ?_ ?_) | (with_reducible refine Fr8.I2 ?_ ?_) | (with_reducible refine fr8_g_X8_cursor_47 ?_) | (with_reducible refine fr8_g_X8_cursor_42 ?_)
theorem fr8_f_X8_paging {σ τ : PS} {x1 : Int32} {x2 : Int64} {x4 : Int32} (h : Fr8 σ τ) : Fr8 σ (f_X8_paging τ x1 x2 x4).1 := by
  unfold f_X8_paging
  try dsimp only
  repeat' first | exact h | (with_reducible refine Fr8.S ?_ (by decide)) | (with_reducible refine Fr8.A ?_ (by decide)) | (with_reducible refine Fr8.I ?_ ?_) | (with_reducible refine Fr8.I2 ?_ ?_) | (with_reducible refine fr8_f_X8_defaults ?_) | (with_reducible refine fr8_f_X8_ejectIfDue ?_)
theorem fr8_g_X8_known_39 {σ τ : PS} {y1 : Int32} {y2 : Int32} {y3 : Int32} {y4 : Int64} (h : Fr8 σ τ) : Fr8 σ (g_X8_known_39 τ y1 y2 y3 y4).1 := by
  unfold g_X8_known_39
  try dsimp only
  repeat' first | exact h | (with_reducible refine Fr8.S ?_ (by decide)) | (with_reducible refine Fr8.A ?_ (by decide)) | (with_reducible refine Fr8.I ?_ ?_) | (with_reducible refine Fr8.I2 ?_ ?_) | (with_reducible refine fr8_f_X8_stack ?_) | (with_reducible refine fr8_f_X8_cursor ?_)
theorem fr8_g_X8_known_10 {σ τ : PS} {y1 : Int32} {y2 : Int32} {y3 : Int32} {k0 : Int64} (h : Fr8 σ τ) : Fr8 σ (g_X8_known_10 τ y1 y2 y3 k0).1 := by
  unfold g_X8_known_10
  try dsimp only
  repeat' first | exact h | (with_reducible refine Fr8.S ?_ (by decide)) | (with_reducible refine Fr8.A ?_ (by decide)) | (with_reducible refine Fr8.I ?_ ?_) | (with_reducible refine Fr8.I2 ?_ ?_) | (with_reducible refine fr8_f_X8_paging ?_) | (with_reducible refine fr8_g_X8_known_39 ?_)
theorem fr8_f_X8_known {σ τ : PS} {x1 : Int32} {x2 : Int32} {x3 : Int32} (h : Fr8 σ τ) : Fr8 σ (f_X8_known τ x1 x2 x3).1 := by
  unfold f_X8_known
  try dsimp only
  repeat' first | exact h | (with_reducible refine Fr8.S ?_ (by decide)) | (with_reducible refine Fr8.A ?_ (by decide)) | (with_reducible refine Fr8.I ?_ ?_) | (with_reducible refine Fr8.I2 ?_ ?_) | (with_reducible refine fr8_g_X8_known_10 ?_)
