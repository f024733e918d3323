section KitS
variable {p : Program} {l : Launch} {e : Env} {R : Room} {s : State} {m : MethodId} {args : Array Value} {below : List Frame} {meth : Method} {c : Code} {H : Heap} {locs : List Loc} {cells slots : Nat} {Q : State → Prop} {cc : ByteArray} {pc : Nat} {ls : Array Slot} {rest : List Value} {own : String} {nL : Nat} {D : va_G} {tys : List (ClassId × FieldType)} {A : Nat → Prop} {H0 : Heap} {a : Nat → Nat} {cA : Nat → ClassId} {σ : PS}
theorem sw_t (K : MC p s m args meth c cc own nL D tys) {dflt lo hi : Int} {offs : Array Int} {len : Nat} {x k : Int32} {tgt : Nat} (hd : decode cc pc = .ok (.tableswitch dflt lo hi offs, len)) (h1 : ¬ k.toInt < lo ∧ ¬ hi < k.toInt) (h2 : offs[(k.toInt - lo).toNat]? = some ((tgt : Int) - (pc : Int))) (kt : x = k → W p l e R s m args below meth c H locs cells slots Q (F0 m tgt ls rest)) (kf : ¬ x = k → W p l e R s m args below meth c H locs cells slots Q (F0 m pc ls (.int x :: rest))) : W p l e R s m args below meth c H locs cells slots Q (F0 m pc ls (.int x :: rest)) := by
  by_cases h : x = k
  · subst h
    exact lv_tableIn K.1 K.2.1 hd h1.1 h1.2 h2 (by omega) (kt rfl)
  · exact kf h
theorem sw_l (K : MC p s m args meth c cc own nL D tys) {dflt : Int} {ps : Array (Int × Int)} {len : Nat} {x k : Int32} {tgt : Nat} (hd : decode cc pc = .ok (.lookupswitch dflt ps, len)) (hp : (ps.toList.zip (ps.toList.drop 1)).all (fun (a, next) => a.1 < next.1) = true) (ho : Op.lookupswitch.offset ps.toList dflt k.toInt = (tgt : Int) - (pc : Int)) (kt : x = k → W p l e R s m args below meth c H locs cells slots Q (F0 m tgt ls rest)) (kf : ¬ x = k → W p l e R s m args below meth c H locs cells slots Q (F0 m pc ls (.int x :: rest))) : W p l e R s m args below meth c H locs cells slots Q (F0 m pc ls (.int x :: rest)) := by
  by_cases h : x = k
  · subst h
    exact lv_lookup K.1 K.2.1 hd hp ho (by omega) (kt rfl)
  · exact kf h
theorem nmD (hw : WD D A H0 (pdW a cA σ) H locs) : ∃ z : PS, z = σ ∧ WD D A H0 (pdW a cA z) H locs := ⟨_, rfl, hw⟩
theorem nmM (hw : WD D A H0 (mdW a cA σ) H locs) : ∃ z : PS, z = σ ∧ WD D A H0 (mdW a cA z) H locs := ⟨_, rfl, hw⟩
theorem vp_lt {i : Int32} {n : Nat} (h : vp_in i n) : i.toNatClampNeg < n := Nat.lt_of_not_le (fun q => h (Or.inr q))
theorem lD_15n (K : MC p s m args meth c cc own nL D (pdT cA)) (hw : WD D A H0 (pdW a cA σ) H locs) {i : Int32} (hin : vp_in i 16) (hd : decode cc pc = .ok (.aaload, 1)) (kk : ∀ j : Nat, j = i.toNatClampNeg → j < 16 → W p l e R s m args below meth c H locs cells slots Q (F0 m (pc + 1) ls (.ref (a (25 + j)) :: rest))) : W p l e R s m args below meth c H locs cells slots Q (F0 m pc ls (.int i :: .ref (a 15) :: rest)) := lD_15 K hw hin hd (kk _ rfl (vp_lt hin))
end KitS
theorem cl_0 : Int32.toNatClampNeg 0 = 0 := by decide
theorem vi_0 {n : Nat} (h : 0 < n) : vp_in 0 n := fun q => by rcases q with q | q; exact absurd q (by decide); rw [cl_0] at q; omega
theorem cl_1 : Int32.toNatClampNeg 1 = 1 := by decide
theorem vi_1 {n : Nat} (h : 1 < n) : vp_in 1 n := fun q => by rcases q with q | q; exact absurd q (by decide); rw [cl_1] at q; omega
theorem cl_2 : Int32.toNatClampNeg 2 = 2 := by decide
theorem vi_2 {n : Nat} (h : 2 < n) : vp_in 2 n := fun q => by rcases q with q | q; exact absurd q (by decide); rw [cl_2] at q; omega
theorem cl_3 : Int32.toNatClampNeg 3 = 3 := by decide
theorem vi_3 {n : Nat} (h : 3 < n) : vp_in 3 n := fun q => by rcases q with q | q; exact absurd q (by decide); rw [cl_3] at q; omega
theorem cl_4 : Int32.toNatClampNeg 4 = 4 := by decide
theorem vi_4 {n : Nat} (h : 4 < n) : vp_in 4 n := fun q => by rcases q with q | q; exact absurd q (by decide); rw [cl_4] at q; omega
theorem cl_5 : Int32.toNatClampNeg 5 = 5 := by decide
theorem vi_5 {n : Nat} (h : 5 < n) : vp_in 5 n := fun q => by rcases q with q | q; exact absurd q (by decide); rw [cl_5] at q; omega
theorem cl_6 : Int32.toNatClampNeg 6 = 6 := by decide
theorem vi_6 {n : Nat} (h : 6 < n) : vp_in 6 n := fun q => by rcases q with q | q; exact absurd q (by decide); rw [cl_6] at q; omega
theorem cl_7 : Int32.toNatClampNeg 7 = 7 := by decide
theorem vi_7 {n : Nat} (h : 7 < n) : vp_in 7 n := fun q => by rcases q with q | q; exact absurd q (by decide); rw [cl_7] at q; omega
theorem cl_8 : Int32.toNatClampNeg 8 = 8 := by decide
theorem vi_8 {n : Nat} (h : 8 < n) : vp_in 8 n := fun q => by rcases q with q | q; exact absurd q (by decide); rw [cl_8] at q; omega
theorem cl_9 : Int32.toNatClampNeg 9 = 9 := by decide
theorem vi_9 {n : Nat} (h : 9 < n) : vp_in 9 n := fun q => by rcases q with q | q; exact absurd q (by decide); rw [cl_9] at q; omega
theorem cl_10 : Int32.toNatClampNeg 10 = 10 := by decide
theorem vi_10 {n : Nat} (h : 10 < n) : vp_in 10 n := fun q => by rcases q with q | q; exact absurd q (by decide); rw [cl_10] at q; omega
theorem cl_11 : Int32.toNatClampNeg 11 = 11 := by decide
theorem vi_11 {n : Nat} (h : 11 < n) : vp_in 11 n := fun q => by rcases q with q | q; exact absurd q (by decide); rw [cl_11] at q; omega
theorem cl_12 : Int32.toNatClampNeg 12 = 12 := by decide
theorem vi_12 {n : Nat} (h : 12 < n) : vp_in 12 n := fun q => by rcases q with q | q; exact absurd q (by decide); rw [cl_12] at q; omega
theorem cl_13 : Int32.toNatClampNeg 13 = 13 := by decide
theorem vi_13 {n : Nat} (h : 13 < n) : vp_in 13 n := fun q => by rcases q with q | q; exact absurd q (by decide); rw [cl_13] at q; omega
theorem cl_14 : Int32.toNatClampNeg 14 = 14 := by decide
theorem vi_14 {n : Nat} (h : 14 < n) : vp_in 14 n := fun q => by rcases q with q | q; exact absurd q (by decide); rw [cl_14] at q; omega
theorem cl_15 : Int32.toNatClampNeg 15 = 15 := by decide
theorem vi_15 {n : Nat} (h : 15 < n) : vp_in 15 n := fun q => by rcases q with q | q; exact absurd q (by decide); rw [cl_15] at q; omega
theorem cl_16 : Int32.toNatClampNeg 16 = 16 := by decide
theorem vi_16 {n : Nat} (h : 16 < n) : vp_in 16 n := fun q => by rcases q with q | q; exact absurd q (by decide); rw [cl_16] at q; omega
theorem cl_17 : Int32.toNatClampNeg 17 = 17 := by decide
theorem vi_17 {n : Nat} (h : 17 < n) : vp_in 17 n := fun q => by rcases q with q | q; exact absurd q (by decide); rw [cl_17] at q; omega
theorem cl_18 : Int32.toNatClampNeg 18 = 18 := by decide
theorem vi_18 {n : Nat} (h : 18 < n) : vp_in 18 n := fun q => by rcases q with q | q; exact absurd q (by decide); rw [cl_18] at q; omega
theorem cl_19 : Int32.toNatClampNeg 19 = 19 := by decide
theorem vi_19 {n : Nat} (h : 19 < n) : vp_in 19 n := fun q => by rcases q with q | q; exact absurd q (by decide); rw [cl_19] at q; omega
theorem cl_20 : Int32.toNatClampNeg 20 = 20 := by decide
theorem vi_20 {n : Nat} (h : 20 < n) : vp_in 20 n := fun q => by rcases q with q | q; exact absurd q (by decide); rw [cl_20] at q; omega
theorem cl_21 : Int32.toNatClampNeg 21 = 21 := by decide
theorem vi_21 {n : Nat} (h : 21 < n) : vp_in 21 n := fun q => by rcases q with q | q; exact absurd q (by decide); rw [cl_21] at q; omega
theorem cl_22 : Int32.toNatClampNeg 22 = 22 := by decide
theorem vi_22 {n : Nat} (h : 22 < n) : vp_in 22 n := fun q => by rcases q with q | q; exact absurd q (by decide); rw [cl_22] at q; omega
theorem cl_23 : Int32.toNatClampNeg 23 = 23 := by decide
theorem vi_23 {n : Nat} (h : 23 < n) : vp_in 23 n := fun q => by rcases q with q | q; exact absurd q (by decide); rw [cl_23] at q; omega
theorem cl_24 : Int32.toNatClampNeg 24 = 24 := by decide
theorem vi_24 {n : Nat} (h : 24 < n) : vp_in 24 n := fun q => by rcases q with q | q; exact absurd q (by decide); rw [cl_24] at q; omega
theorem cl_25 : Int32.toNatClampNeg 25 = 25 := by decide
theorem vi_25 {n : Nat} (h : 25 < n) : vp_in 25 n := fun q => by rcases q with q | q; exact absurd q (by decide); rw [cl_25] at q; omega
theorem cl_26 : Int32.toNatClampNeg 26 = 26 := by decide
theorem vi_26 {n : Nat} (h : 26 < n) : vp_in 26 n := fun q => by rcases q with q | q; exact absurd q (by decide); rw [cl_26] at q; omega
theorem cl_27 : Int32.toNatClampNeg 27 = 27 := by decide
theorem vi_27 {n : Nat} (h : 27 < n) : vp_in 27 n := fun q => by rcases q with q | q; exact absurd q (by decide); rw [cl_27] at q; omega
theorem cl_28 : Int32.toNatClampNeg 28 = 28 := by decide
theorem vi_28 {n : Nat} (h : 28 < n) : vp_in 28 n := fun q => by rcases q with q | q; exact absurd q (by decide); rw [cl_28] at q; omega
theorem cl_29 : Int32.toNatClampNeg 29 = 29 := by decide
theorem vi_29 {n : Nat} (h : 29 < n) : vp_in 29 n := fun q => by rcases q with q | q; exact absurd q (by decide); rw [cl_29] at q; omega
theorem cl_30 : Int32.toNatClampNeg 30 = 30 := by decide
theorem vi_30 {n : Nat} (h : 30 < n) : vp_in 30 n := fun q => by rcases q with q | q; exact absurd q (by decide); rw [cl_30] at q; omega
theorem cl_31 : Int32.toNatClampNeg 31 = 31 := by decide
theorem vi_31 {n : Nat} (h : 31 < n) : vp_in 31 n := fun q => by rcases q with q | q; exact absurd q (by decide); rw [cl_31] at q; omega
theorem cl_32 : Int32.toNatClampNeg 32 = 32 := by decide
theorem vi_32 {n : Nat} (h : 32 < n) : vp_in 32 n := fun q => by rcases q with q | q; exact absurd q (by decide); rw [cl_32] at q; omega
theorem cl_33 : Int32.toNatClampNeg 33 = 33 := by decide
theorem vi_33 {n : Nat} (h : 33 < n) : vp_in 33 n := fun q => by rcases q with q | q; exact absurd q (by decide); rw [cl_33] at q; omega
theorem cl_34 : Int32.toNatClampNeg 34 = 34 := by decide
theorem vi_34 {n : Nat} (h : 34 < n) : vp_in 34 n := fun q => by rcases q with q | q; exact absurd q (by decide); rw [cl_34] at q; omega
theorem cl_35 : Int32.toNatClampNeg 35 = 35 := by decide
theorem vi_35 {n : Nat} (h : 35 < n) : vp_in 35 n := fun q => by rcases q with q | q; exact absurd q (by decide); rw [cl_35] at q; omega
theorem cl_36 : Int32.toNatClampNeg 36 = 36 := by decide
theorem vi_36 {n : Nat} (h : 36 < n) : vp_in 36 n := fun q => by rcases q with q | q; exact absurd q (by decide); rw [cl_36] at q; omega
theorem cl_37 : Int32.toNatClampNeg 37 = 37 := by decide
theorem vi_37 {n : Nat} (h : 37 < n) : vp_in 37 n := fun q => by rcases q with q | q; exact absurd q (by decide); rw [cl_37] at q; omega
theorem cl_38 : Int32.toNatClampNeg 38 = 38 := by decide
theorem vi_38 {n : Nat} (h : 38 < n) : vp_in 38 n := fun q => by rcases q with q | q; exact absurd q (by decide); rw [cl_38] at q; omega
theorem cl_39 : Int32.toNatClampNeg 39 = 39 := by decide
theorem vi_39 {n : Nat} (h : 39 < n) : vp_in 39 n := fun q => by rcases q with q | q; exact absurd q (by decide); rw [cl_39] at q; omega
theorem cl_40 : Int32.toNatClampNeg 40 = 40 := by decide
theorem vi_40 {n : Nat} (h : 40 < n) : vp_in 40 n := fun q => by rcases q with q | q; exact absurd q (by decide); rw [cl_40] at q; omega
theorem cl_41 : Int32.toNatClampNeg 41 = 41 := by decide
theorem vi_41 {n : Nat} (h : 41 < n) : vp_in 41 n := fun q => by rcases q with q | q; exact absurd q (by decide); rw [cl_41] at q; omega
theorem cl_42 : Int32.toNatClampNeg 42 = 42 := by decide
theorem vi_42 {n : Nat} (h : 42 < n) : vp_in 42 n := fun q => by rcases q with q | q; exact absurd q (by decide); rw [cl_42] at q; omega
theorem cl_43 : Int32.toNatClampNeg 43 = 43 := by decide
theorem vi_43 {n : Nat} (h : 43 < n) : vp_in 43 n := fun q => by rcases q with q | q; exact absurd q (by decide); rw [cl_43] at q; omega
theorem cl_44 : Int32.toNatClampNeg 44 = 44 := by decide
theorem vi_44 {n : Nat} (h : 44 < n) : vp_in 44 n := fun q => by rcases q with q | q; exact absurd q (by decide); rw [cl_44] at q; omega
theorem cl_45 : Int32.toNatClampNeg 45 = 45 := by decide
theorem vi_45 {n : Nat} (h : 45 < n) : vp_in 45 n := fun q => by rcases q with q | q; exact absurd q (by decide); rw [cl_45] at q; omega
theorem cl_46 : Int32.toNatClampNeg 46 = 46 := by decide
theorem vi_46 {n : Nat} (h : 46 < n) : vp_in 46 n := fun q => by rcases q with q | q; exact absurd q (by decide); rw [cl_46] at q; omega
theorem cl_47 : Int32.toNatClampNeg 47 = 47 := by decide
theorem vi_47 {n : Nat} (h : 47 < n) : vp_in 47 n := fun q => by rcases q with q | q; exact absurd q (by decide); rw [cl_47] at q; omega
theorem cl_48 : Int32.toNatClampNeg 48 = 48 := by decide
theorem vi_48 {n : Nat} (h : 48 < n) : vp_in 48 n := fun q => by rcases q with q | q; exact absurd q (by decide); rw [cl_48] at q; omega
theorem cl_49 : Int32.toNatClampNeg 49 = 49 := by decide
theorem vi_49 {n : Nat} (h : 49 < n) : vp_in 49 n := fun q => by rcases q with q | q; exact absurd q (by decide); rw [cl_49] at q; omega
theorem cl_50 : Int32.toNatClampNeg 50 = 50 := by decide
theorem vi_50 {n : Nat} (h : 50 < n) : vp_in 50 n := fun q => by rcases q with q | q; exact absurd q (by decide); rw [cl_50] at q; omega
theorem cl_51 : Int32.toNatClampNeg 51 = 51 := by decide
theorem vi_51 {n : Nat} (h : 51 < n) : vp_in 51 n := fun q => by rcases q with q | q; exact absurd q (by decide); rw [cl_51] at q; omega
theorem cl_52 : Int32.toNatClampNeg 52 = 52 := by decide
theorem vi_52 {n : Nat} (h : 52 < n) : vp_in 52 n := fun q => by rcases q with q | q; exact absurd q (by decide); rw [cl_52] at q; omega
def bxl (k : Nat) : Int := match k with | 4 => 0 | 8 => 0 | 9 => 0 | 26 => 0 | 27 => 0 | 29 => 0 | 30 => 0 | 31 => 0 | 33 => 0 | 35 => 0 | 36 => 0 | 37 => 0 | 38 => 0 | 39 => 0 | 49 => 0 | 50 => 0 | 52 => 0 | 53 => 0 | 62 => 0 | 63 => 0 | 65 => 0 | 66 => 0 | 75 => 0 | 76 => 0 | 78 => 0 | 79 => 0 | _ => -2147483648
def bxh (k : Nat) : Int := match k with | 4 => 1 | 8 => 1 | 9 => 1 | 26 => 1 | 27 => 1 | 29 => 1 | 30 => 20 | 31 => 6000 | 33 => 1 | 35 => 16 | 36 => 15 | 37 => 4095 | 38 => 4096 | 39 => 1 | 49 => 1 | 50 => 1 | 52 => 1 | 53 => 20 | 62 => 1 | 63 => 1 | 65 => 1 | 66 => 20 | 75 => 1 | 76 => 1 | 78 => 1 | 79 => 20 | _ => 2147483647
def Bx (σ : PS) : Prop := ∀ k, bxl k ≤ (σ.1 k).toInt ∧ (σ.1 k).toInt ≤ bxh k
theorem i32r (v : Int32) : -2147483648 ≤ v.toInt ∧ v.toInt ≤ 2147483647 := ⟨Int32.le_toInt v, by have := Int32.toInt_lt v; omega⟩
theorem bxU {σ : PS} {k : Nat} {v : Int32} (h : Bx σ) (h1 : bxl k ≤ v.toInt) (h2 : v.toInt ≤ bxh k) : Bx (upS σ k v) := fun j => by
  by_cases e : j = k
  · subst e; simp only [upS, va_up, if_true]; exact ⟨h1, h2⟩
  · simp only [upS, va_up, if_neg e]; exact h j
theorem bxA {σ : PS} {j i : Nat} {v : Int32} (h : Bx σ) : Bx (upA σ j i v) := h
theorem bxG {σ : PS} {i : Nat} {v : Int64} (h : Bx σ) : Bx (upG σ i v) := h
theorem bxS_0 {σ : PS} {v : Int32} (h : Bx σ) : Bx (upS σ 0 v) := bxU h (i32r v).1 (i32r v).2
theorem bxS_1 {σ : PS} {v : Int32} (h : Bx σ) : Bx (upS σ 1 v) := bxU h (i32r v).1 (i32r v).2
theorem bxS_2 {σ : PS} {v : Int32} (h : Bx σ) : Bx (upS σ 2 v) := bxU h (i32r v).1 (i32r v).2
theorem bxS_3 {σ : PS} {v : Int32} (h : Bx σ) : Bx (upS σ 3 v) := bxU h (i32r v).1 (i32r v).2
theorem bxQ_4 {σ : PS} {v : Int32} (h : Bx σ) (h1 : 0 ≤ v.toInt) (h2 : v.toInt ≤ 1) : Bx (upS σ 4 v) := bxU h h1 h2
theorem bxS_5 {σ : PS} {v : Int32} (h : Bx σ) : Bx (upS σ 5 v) := bxU h (i32r v).1 (i32r v).2
theorem bxS_6 {σ : PS} {v : Int32} (h : Bx σ) : Bx (upS σ 6 v) := bxU h (i32r v).1 (i32r v).2
theorem bxS_7 {σ : PS} {v : Int32} (h : Bx σ) : Bx (upS σ 7 v) := bxU h (i32r v).1 (i32r v).2
theorem bxQ_8 {σ : PS} {v : Int32} (h : Bx σ) (h1 : 0 ≤ v.toInt) (h2 : v.toInt ≤ 1) : Bx (upS σ 8 v) := bxU h h1 h2
theorem bxQ_9 {σ : PS} {v : Int32} (h : Bx σ) (h1 : 0 ≤ v.toInt) (h2 : v.toInt ≤ 1) : Bx (upS σ 9 v) := bxU h h1 h2
theorem bxS_10 {σ : PS} {v : Int32} (h : Bx σ) : Bx (upS σ 10 v) := bxU h (i32r v).1 (i32r v).2
theorem bxS_11 {σ : PS} {v : Int32} (h : Bx σ) : Bx (upS σ 11 v) := bxU h (i32r v).1 (i32r v).2
theorem bxS_12 {σ : PS} {v : Int32} (h : Bx σ) : Bx (upS σ 12 v) := bxU h (i32r v).1 (i32r v).2
theorem bxS_13 {σ : PS} {v : Int32} (h : Bx σ) : Bx (upS σ 13 v) := bxU h (i32r v).1 (i32r v).2
theorem bxS_14 {σ : PS} {v : Int32} (h : Bx σ) : Bx (upS σ 14 v) := bxU h (i32r v).1 (i32r v).2
theorem bxS_15 {σ : PS} {v : Int32} (h : Bx σ) : Bx (upS σ 15 v) := bxU h (i32r v).1 (i32r v).2
theorem bxS_16 {σ : PS} {v : Int32} (h : Bx σ) : Bx (upS σ 16 v) := bxU h (i32r v).1 (i32r v).2
theorem bxS_17 {σ : PS} {v : Int32} (h : Bx σ) : Bx (upS σ 17 v) := bxU h (i32r v).1 (i32r v).2
theorem bxS_18 {σ : PS} {v : Int32} (h : Bx σ) : Bx (upS σ 18 v) := bxU h (i32r v).1 (i32r v).2
theorem bxS_19 {σ : PS} {v : Int32} (h : Bx σ) : Bx (upS σ 19 v) := bxU h (i32r v).1 (i32r v).2
theorem bxS_20 {σ : PS} {v : Int32} (h : Bx σ) : Bx (upS σ 20 v) := bxU h (i32r v).1 (i32r v).2
theorem bxS_21 {σ : PS} {v : Int32} (h : Bx σ) : Bx (upS σ 21 v) := bxU h (i32r v).1 (i32r v).2
theorem bxS_22 {σ : PS} {v : Int32} (h : Bx σ) : Bx (upS σ 22 v) := bxU h (i32r v).1 (i32r v).2
theorem bxS_23 {σ : PS} {v : Int32} (h : Bx σ) : Bx (upS σ 23 v) := bxU h (i32r v).1 (i32r v).2
theorem bxS_24 {σ : PS} {v : Int32} (h : Bx σ) : Bx (upS σ 24 v) := bxU h (i32r v).1 (i32r v).2
theorem bxS_25 {σ : PS} {v : Int32} (h : Bx σ) : Bx (upS σ 25 v) := bxU h (i32r v).1 (i32r v).2
theorem bxQ_26 {σ : PS} {v : Int32} (h : Bx σ) (h1 : 0 ≤ v.toInt) (h2 : v.toInt ≤ 1) : Bx (upS σ 26 v) := bxU h h1 h2
theorem bxQ_27 {σ : PS} {v : Int32} (h : Bx σ) (h1 : 0 ≤ v.toInt) (h2 : v.toInt ≤ 1) : Bx (upS σ 27 v) := bxU h h1 h2
theorem bxS_28 {σ : PS} {v : Int32} (h : Bx σ) : Bx (upS σ 28 v) := bxU h (i32r v).1 (i32r v).2
theorem bxQ_29 {σ : PS} {v : Int32} (h : Bx σ) (h1 : 0 ≤ v.toInt) (h2 : v.toInt ≤ 1) : Bx (upS σ 29 v) := bxU h h1 h2
theorem bxQ_30 {σ : PS} {v : Int32} (h : Bx σ) (h1 : 0 ≤ v.toInt) (h2 : v.toInt ≤ 20) : Bx (upS σ 30 v) := bxU h h1 h2
theorem bxQ_31 {σ : PS} {v : Int32} (h : Bx σ) (h1 : 0 ≤ v.toInt) (h2 : v.toInt ≤ 6000) : Bx (upS σ 31 v) := bxU h h1 h2
theorem bxS_32 {σ : PS} {v : Int32} (h : Bx σ) : Bx (upS σ 32 v) := bxU h (i32r v).1 (i32r v).2
theorem bxQ_33 {σ : PS} {v : Int32} (h : Bx σ) (h1 : 0 ≤ v.toInt) (h2 : v.toInt ≤ 1) : Bx (upS σ 33 v) := bxU h h1 h2
theorem bxS_34 {σ : PS} {v : Int32} (h : Bx σ) : Bx (upS σ 34 v) := bxU h (i32r v).1 (i32r v).2
theorem bxQ_35 {σ : PS} {v : Int32} (h : Bx σ) (h1 : 0 ≤ v.toInt) (h2 : v.toInt ≤ 16) : Bx (upS σ 35 v) := bxU h h1 h2
theorem bxQ_36 {σ : PS} {v : Int32} (h : Bx σ) (h1 : 0 ≤ v.toInt) (h2 : v.toInt ≤ 15) : Bx (upS σ 36 v) := bxU h h1 h2
theorem bxQ_37 {σ : PS} {v : Int32} (h : Bx σ) (h1 : 0 ≤ v.toInt) (h2 : v.toInt ≤ 4095) : Bx (upS σ 37 v) := bxU h h1 h2
theorem bxQ_38 {σ : PS} {v : Int32} (h : Bx σ) (h1 : 0 ≤ v.toInt) (h2 : v.toInt ≤ 4096) : Bx (upS σ 38 v) := bxU h h1 h2
theorem bxQ_39 {σ : PS} {v : Int32} (h : Bx σ) (h1 : 0 ≤ v.toInt) (h2 : v.toInt ≤ 1) : Bx (upS σ 39 v) := bxU h h1 h2
theorem bxS_40 {σ : PS} {v : Int32} (h : Bx σ) : Bx (upS σ 40 v) := bxU h (i32r v).1 (i32r v).2
theorem bxS_41 {σ : PS} {v : Int32} (h : Bx σ) : Bx (upS σ 41 v) := bxU h (i32r v).1 (i32r v).2
theorem bxS_42 {σ : PS} {v : Int32} (h : Bx σ) : Bx (upS σ 42 v) := bxU h (i32r v).1 (i32r v).2
theorem bxS_43 {σ : PS} {v : Int32} (h : Bx σ) : Bx (upS σ 43 v) := bxU h (i32r v).1 (i32r v).2
theorem bxS_44 {σ : PS} {v : Int32} (h : Bx σ) : Bx (upS σ 44 v) := bxU h (i32r v).1 (i32r v).2
theorem bxS_45 {σ : PS} {v : Int32} (h : Bx σ) : Bx (upS σ 45 v) := bxU h (i32r v).1 (i32r v).2
theorem bxS_46 {σ : PS} {v : Int32} (h : Bx σ) : Bx (upS σ 46 v) := bxU h (i32r v).1 (i32r v).2
theorem bxS_47 {σ : PS} {v : Int32} (h : Bx σ) : Bx (upS σ 47 v) := bxU h (i32r v).1 (i32r v).2
theorem bxS_48 {σ : PS} {v : Int32} (h : Bx σ) : Bx (upS σ 48 v) := bxU h (i32r v).1 (i32r v).2
theorem bxQ_49 {σ : PS} {v : Int32} (h : Bx σ) (h1 : 0 ≤ v.toInt) (h2 : v.toInt ≤ 1) : Bx (upS σ 49 v) := bxU h h1 h2
theorem bxQ_50 {σ : PS} {v : Int32} (h : Bx σ) (h1 : 0 ≤ v.toInt) (h2 : v.toInt ≤ 1) : Bx (upS σ 50 v) := bxU h h1 h2
theorem bxS_51 {σ : PS} {v : Int32} (h : Bx σ) : Bx (upS σ 51 v) := bxU h (i32r v).1 (i32r v).2
theorem bxQ_52 {σ : PS} {v : Int32} (h : Bx σ) (h1 : 0 ≤ v.toInt) (h2 : v.toInt ≤ 1) : Bx (upS σ 52 v) := bxU h h1 h2
theorem bxQ_53 {σ : PS} {v : Int32} (h : Bx σ) (h1 : 0 ≤ v.toInt) (h2 : v.toInt ≤ 20) : Bx (upS σ 53 v) := bxU h h1 h2
theorem bxS_54 {σ : PS} {v : Int32} (h : Bx σ) : Bx (upS σ 54 v) := bxU h (i32r v).1 (i32r v).2
theorem bxS_55 {σ : PS} {v : Int32} (h : Bx σ) : Bx (upS σ 55 v) := bxU h (i32r v).1 (i32r v).2
theorem bxS_56 {σ : PS} {v : Int32} (h : Bx σ) : Bx (upS σ 56 v) := bxU h (i32r v).1 (i32r v).2
theorem bxS_57 {σ : PS} {v : Int32} (h : Bx σ) : Bx (upS σ 57 v) := bxU h (i32r v).1 (i32r v).2
theorem bxS_58 {σ : PS} {v : Int32} (h : Bx σ) : Bx (upS σ 58 v) := bxU h (i32r v).1 (i32r v).2
theorem bxS_59 {σ : PS} {v : Int32} (h : Bx σ) : Bx (upS σ 59 v) := bxU h (i32r v).1 (i32r v).2
theorem bxS_60 {σ : PS} {v : Int32} (h : Bx σ) : Bx (upS σ 60 v) := bxU h (i32r v).1 (i32r v).2
theorem bxS_61 {σ : PS} {v : Int32} (h : Bx σ) : Bx (upS σ 61 v) := bxU h (i32r v).1 (i32r v).2
theorem bxQ_62 {σ : PS} {v : Int32} (h : Bx σ) (h1 : 0 ≤ v.toInt) (h2 : v.toInt ≤ 1) : Bx (upS σ 62 v) := bxU h h1 h2
theorem bxQ_63 {σ : PS} {v : Int32} (h : Bx σ) (h1 : 0 ≤ v.toInt) (h2 : v.toInt ≤ 1) : Bx (upS σ 63 v) := bxU h h1 h2
theorem bxS_64 {σ : PS} {v : Int32} (h : Bx σ) : Bx (upS σ 64 v) := bxU h (i32r v).1 (i32r v).2
theorem bxQ_65 {σ : PS} {v : Int32} (h : Bx σ) (h1 : 0 ≤ v.toInt) (h2 : v.toInt ≤ 1) : Bx (upS σ 65 v) := bxU h h1 h2
theorem bxQ_66 {σ : PS} {v : Int32} (h : Bx σ) (h1 : 0 ≤ v.toInt) (h2 : v.toInt ≤ 20) : Bx (upS σ 66 v) := bxU h h1 h2
theorem bxS_67 {σ : PS} {v : Int32} (h : Bx σ) : Bx (upS σ 67 v) := bxU h (i32r v).1 (i32r v).2
theorem bxS_68 {σ : PS} {v : Int32} (h : Bx σ) : Bx (upS σ 68 v) := bxU h (i32r v).1 (i32r v).2
theorem bxS_69 {σ : PS} {v : Int32} (h : Bx σ) : Bx (upS σ 69 v) := bxU h (i32r v).1 (i32r v).2
theorem bxS_70 {σ : PS} {v : Int32} (h : Bx σ) : Bx (upS σ 70 v) := bxU h (i32r v).1 (i32r v).2
theorem bxS_71 {σ : PS} {v : Int32} (h : Bx σ) : Bx (upS σ 71 v) := bxU h (i32r v).1 (i32r v).2
theorem bxS_72 {σ : PS} {v : Int32} (h : Bx σ) : Bx (upS σ 72 v) := bxU h (i32r v).1 (i32r v).2
theorem bxS_73 {σ : PS} {v : Int32} (h : Bx σ) : Bx (upS σ 73 v) := bxU h (i32r v).1 (i32r v).2
theorem bxS_74 {σ : PS} {v : Int32} (h : Bx σ) : Bx (upS σ 74 v) := bxU h (i32r v).1 (i32r v).2
theorem bxQ_75 {σ : PS} {v : Int32} (h : Bx σ) (h1 : 0 ≤ v.toInt) (h2 : v.toInt ≤ 1) : Bx (upS σ 75 v) := bxU h h1 h2
theorem bxQ_76 {σ : PS} {v : Int32} (h : Bx σ) (h1 : 0 ≤ v.toInt) (h2 : v.toInt ≤ 1) : Bx (upS σ 76 v) := bxU h h1 h2
theorem bxS_77 {σ : PS} {v : Int32} (h : Bx σ) : Bx (upS σ 77 v) := bxU h (i32r v).1 (i32r v).2
theorem bxQ_78 {σ : PS} {v : Int32} (h : Bx σ) (h1 : 0 ≤ v.toInt) (h2 : v.toInt ≤ 1) : Bx (upS σ 78 v) := bxU h h1 h2
theorem bxQ_79 {σ : PS} {v : Int32} (h : Bx σ) (h1 : 0 ≤ v.toInt) (h2 : v.toInt ≤ 20) : Bx (upS σ 79 v) := bxU h h1 h2
theorem bxg_4 {σ : PS} (h : Bx σ) : 0 ≤ (σ.1 4).toInt ∧ (σ.1 4).toInt ≤ 1 := h 4
theorem bxg_8 {σ : PS} (h : Bx σ) : 0 ≤ (σ.1 8).toInt ∧ (σ.1 8).toInt ≤ 1 := h 8
theorem bxg_9 {σ : PS} (h : Bx σ) : 0 ≤ (σ.1 9).toInt ∧ (σ.1 9).toInt ≤ 1 := h 9
theorem bxg_26 {σ : PS} (h : Bx σ) : 0 ≤ (σ.1 26).toInt ∧ (σ.1 26).toInt ≤ 1 := h 26
theorem bxg_27 {σ : PS} (h : Bx σ) : 0 ≤ (σ.1 27).toInt ∧ (σ.1 27).toInt ≤ 1 := h 27
theorem bxg_29 {σ : PS} (h : Bx σ) : 0 ≤ (σ.1 29).toInt ∧ (σ.1 29).toInt ≤ 1 := h 29
theorem bxg_30 {σ : PS} (h : Bx σ) : 0 ≤ (σ.1 30).toInt ∧ (σ.1 30).toInt ≤ 20 := h 30
theorem bxg_31 {σ : PS} (h : Bx σ) : 0 ≤ (σ.1 31).toInt ∧ (σ.1 31).toInt ≤ 6000 := h 31
theorem bxg_33 {σ : PS} (h : Bx σ) : 0 ≤ (σ.1 33).toInt ∧ (σ.1 33).toInt ≤ 1 := h 33
theorem bxg_35 {σ : PS} (h : Bx σ) : 0 ≤ (σ.1 35).toInt ∧ (σ.1 35).toInt ≤ 16 := h 35
theorem bxg_36 {σ : PS} (h : Bx σ) : 0 ≤ (σ.1 36).toInt ∧ (σ.1 36).toInt ≤ 15 := h 36
theorem bxg_37 {σ : PS} (h : Bx σ) : 0 ≤ (σ.1 37).toInt ∧ (σ.1 37).toInt ≤ 4095 := h 37
theorem bxg_38 {σ : PS} (h : Bx σ) : 0 ≤ (σ.1 38).toInt ∧ (σ.1 38).toInt ≤ 4096 := h 38
theorem bxg_39 {σ : PS} (h : Bx σ) : 0 ≤ (σ.1 39).toInt ∧ (σ.1 39).toInt ≤ 1 := h 39
theorem bxg_49 {σ : PS} (h : Bx σ) : 0 ≤ (σ.1 49).toInt ∧ (σ.1 49).toInt ≤ 1 := h 49
theorem bxg_50 {σ : PS} (h : Bx σ) : 0 ≤ (σ.1 50).toInt ∧ (σ.1 50).toInt ≤ 1 := h 50
theorem bxg_52 {σ : PS} (h : Bx σ) : 0 ≤ (σ.1 52).toInt ∧ (σ.1 52).toInt ≤ 1 := h 52
theorem bxg_53 {σ : PS} (h : Bx σ) : 0 ≤ (σ.1 53).toInt ∧ (σ.1 53).toInt ≤ 20 := h 53
theorem bxg_62 {σ : PS} (h : Bx σ) : 0 ≤ (σ.1 62).toInt ∧ (σ.1 62).toInt ≤ 1 := h 62
theorem bxg_63 {σ : PS} (h : Bx σ) : 0 ≤ (σ.1 63).toInt ∧ (σ.1 63).toInt ≤ 1 := h 63
theorem bxg_65 {σ : PS} (h : Bx σ) : 0 ≤ (σ.1 65).toInt ∧ (σ.1 65).toInt ≤ 1 := h 65
theorem bxg_66 {σ : PS} (h : Bx σ) : 0 ≤ (σ.1 66).toInt ∧ (σ.1 66).toInt ≤ 20 := h 66
theorem bxg_75 {σ : PS} (h : Bx σ) : 0 ≤ (σ.1 75).toInt ∧ (σ.1 75).toInt ≤ 1 := h 75
theorem bxg_76 {σ : PS} (h : Bx σ) : 0 ≤ (σ.1 76).toInt ∧ (σ.1 76).toInt ≤ 1 := h 76
theorem bxg_78 {σ : PS} (h : Bx σ) : 0 ≤ (σ.1 78).toInt ∧ (σ.1 78).toInt ≤ 1 := h 78
theorem bxg_79 {σ : PS} (h : Bx σ) : 0 ≤ (σ.1 79).toInt ∧ (σ.1 79).toInt ≤ 20 := h 79
theorem bxI {P : PS → Prop} {c : Prop} [Decidable c] {x y : PS} (h1 : c → P x) (h2 : ¬ c → P y) : P (if c then x else y) := by
  by_cases h : c
  · rw [if_pos h]; exact h1 h
  · rw [if_neg h]; exact h2 h
theorem bxI2 {P : PS → Prop} {c : Prop} [Decidable c] {x y : PS × Int32} (h1 : c → P x.1) (h2 : ¬ c → P y.1) : P (if c then x else y).1 := by
  by_cases h : c
  · rw [if_pos h]; exact h1 h
  · rw [if_neg h]; exact h2 h
def NZ (v : Int32) : Prop := narrow .boolean (.int v) = .int v
theorem nz0 : NZ 0 := rfl
theorem nz1 : NZ 1 := rfl
theorem nzI {c : Prop} [Decidable c] {x y : Int32} (h1 : NZ x) (h2 : NZ y) : NZ (if c then x else y) := by
  by_cases h : c
  · rw [if_pos h]; exact h1
  · rw [if_neg h]; exact h2
theorem nzI2 {c : Prop} [Decidable c] {x y : PS × Int32} (h1 : NZ x.2) (h2 : NZ y.2) : NZ (if c then x else y).2 := by
  by_cases h : c
  · rw [if_pos h]; exact h1
  · rw [if_neg h]; exact h2
theorem i32add {a b : Int32} (h1 : -2147483648 ≤ a.toInt + b.toInt) (h2 : a.toInt + b.toInt ≤ 2147483647) : (a + b).toInt = a.toInt + b.toInt := by
  rw [Int32.toInt_add, Int.bmod_def]
  split <;> omega
theorem i32sub {a b : Int32} (h1 : -2147483648 ≤ a.toInt - b.toInt) (h2 : a.toInt - b.toInt ≤ 2147483647) : (a - b).toInt = a.toInt - b.toInt := by
  rw [Int32.toInt_sub, Int.bmod_def]
  split <;> omega
theorem i32mul {a b : Int32} (h1 : -2147483648 ≤ a.toInt * b.toInt) (h2 : a.toInt * b.toInt ≤ 2147483647) : (a * b).toInt = a.toInt * b.toInt := by
  rw [Int32.toInt_mul, Int.bmod_def]
  split <;> omega
theorem vB1 {i N : Int32} (n : Nat) (h0 : 0 ≤ i.toInt) (h : ¬ N ≤ i) (hN : N.toInt = (n : Int)) : vp_in i n := by
  refine vp_in_iff.mpr ⟨h0, ?_⟩
  rw [Int32.le_iff_toInt_le] at h
  omega
theorem vB2 {i : Int32} (n : Nat) {b : Int} (h : 0 ≤ i.toInt ∧ i.toInt ≤ b) (hn : b < n) : vp_in i n := vp_in_iff.mpr ⟨h.1, by omega⟩
theorem vRem {x N : Int32} (n : Nat) (h : 0 ≤ x.toInt) (hN : N.toInt = (n : Int)) (hn : 0 < n) : vp_in (x - x / N * N) n := by
  refine vp_in_iff.mpr ?_
  rw [rem_toInt, hN]
  exact ⟨Int.tmod_nonneg _ h, Int.tmod_lt_of_pos _ (by omega)⟩
theorem nzB {v : Int32} (h : 0 ≤ v.toInt ∧ v.toInt ≤ 1) : narrow .boolean (.int v) = .int v := by
  have : v = 0 ∨ v = 1 := by
    rcases (show v.toInt = 0 ∨ v.toInt = 1 by omega) with q | q
    · exact Or.inl (Int32.toInt_inj.mp (by rw [q]; rfl))
    · exact Or.inr (Int32.toInt_inj.mp (by rw [q]; rfl))
  rcases this with rfl | rfl <;> rfl
theorem fzB {v : Int32} (h : 0 ≤ v.toInt ∧ v.toInt ≤ 1) : fits .boolean (.int v) = true := by
  have : v = 0 ∨ v = 1 := by
    rcases (show v.toInt = 0 ∨ v.toInt = 1 by omega) with q | q
    · exact Or.inl (Int32.toInt_inj.mp (by rw [q]; rfl))
    · exact Or.inr (Int32.toInt_inj.mp (by rw [q]; rfl))
  rcases this with rfl | rfl <;> rfl
def bml (k : Nat) : Int := match k with | 14 => 0 | 15 => 0 | 18 => 0 | 20 => 0 | 23 => 0 | 25 => 0 | 29 => 0 | 31 => 0 | _ => -2147483648
def bmh (k : Nat) : Int := match k with | 14 => 1 | 15 => 1 | 18 => 4 | 20 => 1 | 23 => 6000 | 25 => 1 | 29 => 16 | 31 => 4096 | _ => 2147483647
def bnl (k : Nat) : Int := match k with | 11 => 0 | 12 => 0 | _ => -2147483648
def bnh (k : Nat) : Int := match k with | 11 => 1 | 12 => 20 | _ => 2147483647
def Bm (σ : PS) : Prop := (∀ k, bml k ≤ (σ.1 k).toInt ∧ (σ.1 k).toInt ≤ bmh k) ∧ (∀ i, bnl i ≤ (σ.2.1 0 i).toInt ∧ (σ.2.1 0 i).toInt ≤ bnh i)
theorem bmU {σ : PS} {k : Nat} {v : Int32} (h : Bm σ) (h1 : bml k ≤ v.toInt) (h2 : v.toInt ≤ bmh k) : Bm (upS σ k v) := ⟨fun j => by
  by_cases e : j = k
  · subst e; simp only [upS, va_up, if_true]; exact ⟨h1, h2⟩
  · simp only [upS, va_up, if_neg e]; exact h.1 j, h.2⟩
theorem bmA {σ : PS} {j i : Nat} {v : Int32} (hj : j ≠ 0) (h : Bm σ) : Bm (upA σ j i v) := ⟨h.1, fun k => by
  simp only [upA, va_up, if_neg (Ne.symm hj)]; exact h.2 k⟩
theorem bmTU {σ : PS} {i : Nat} {v : Int32} (h : Bm σ) (h1 : bnl i ≤ v.toInt) (h2 : v.toInt ≤ bnh i) : Bm (upA σ 0 i v) := ⟨h.1, fun k => by
  by_cases e : k = i
  · subst e; simp only [upA, va_up, upd, if_true]; exact ⟨h1, h2⟩
  · simp only [upA, va_up, upd, if_true, if_neg e]; exact h.2 k⟩
theorem bnD {i : Nat} (h1 : i ≠ 11) (h2 : i ≠ 12) : bnl i = -2147483648 ∧ bnh i = 2147483647 := by
  unfold bnl bnh
  constructor <;> split <;> first | rfl | contradiction
theorem bmT {σ : PS} {i : Nat} {v : Int32} (h : Bm σ) (h1 : i ≠ 11) (h2 : i ≠ 12) : Bm (upA σ 0 i v) := bmTU h (by rw [(bnD h1 h2).1]; exact (i32r v).1) (by rw [(bnD h1 h2).2]; exact (i32r v).2)
theorem bmT_11 {σ : PS} {v : Int32} (h : Bm σ) (h1 : 0 ≤ v.toInt) (h2 : v.toInt ≤ 1) : Bm (upA σ 0 11 v) := bmTU h h1 h2
theorem bmT_12 {σ : PS} {v : Int32} (h : Bm σ) (h1 : 0 ≤ v.toInt) (h2 : v.toInt ≤ 20) : Bm (upA σ 0 12 v) := bmTU h h1 h2
theorem bmT0 {σ : PS} {i : Nat} (h : Bm σ) : Bm (upA σ 0 i 0) := by
  refine bmTU h ?_ ?_
  · show bnl i ≤ 0; unfold bnl; split <;> decide
  · show 0 ≤ bnh i; unfold bnh; split <;> decide
theorem bmt_11 {σ : PS} (h : Bm σ) : 0 ≤ (σ.2.1 0 11).toInt ∧ (σ.2.1 0 11).toInt ≤ 1 := h.2 11
theorem bmt_12 {σ : PS} (h : Bm σ) : 0 ≤ (σ.2.1 0 12).toInt ∧ (σ.2.1 0 12).toInt ≤ 20 := h.2 12
theorem bmQ_29 {σ : PS} {v : Int32} (h : Bm σ) (h1 : 1 ≤ v.toInt) (h2 : v.toInt ≤ 16) : Bm (upS σ 29 v) := bmU h (Int.le_trans (by decide) h1) h2
def M3 (σ : PS) : Prop := σ.1 10 = 4 → σ.1 21 = 2 → 1 ≤ (σ.1 29).toInt
def Pm (n : Int) (σ : PS) : Prop := 0 ≤ (σ.1 27).toInt ∧ (σ.1 27).toInt ≤ n
theorem pm_w {n : Int} {σ : PS} (h : Pm n σ) : Pm (n + 1) σ := ⟨h.1, by have := h.2; omega⟩
theorem pm_up {n : Int} {σ τ : PS} (h : Pm n σ) (hn : n ≤ 2147483646) (hv : τ.1 27 = σ.1 27 + 1 := by rfl) : Pm (n + 1) τ := by
  have h1 : (1 : Int32).toInt = 1 := rfl
  have e : (σ.1 27 + 1).toInt = (σ.1 27).toInt + 1 := by rw [i32add (by have := h.1; omega) (by have := h.2; omega), h1]
  have h2 := h.1
  have h3 := h.2
  unfold Pm
  rw [hv, e]
  omega
theorem vpD {i : Int32} {n : Nat} (h1 : ¬ i < 0) (h2 : i.toNatClampNeg < n) : vp_in i n := fun q => q.elim h1 (fun z => Nat.lt_irrefl _ (Nat.lt_of_lt_of_le h2 z))
theorem bmS_0 {σ : PS} {v : Int32} (h : Bm σ) : Bm (upS σ 0 v) := bmU h (i32r v).1 (i32r v).2
theorem bmS_1 {σ : PS} {v : Int32} (h : Bm σ) : Bm (upS σ 1 v) := bmU h (i32r v).1 (i32r v).2
theorem bmS_2 {σ : PS} {v : Int32} (h : Bm σ) : Bm (upS σ 2 v) := bmU h (i32r v).1 (i32r v).2
theorem bmS_3 {σ : PS} {v : Int32} (h : Bm σ) : Bm (upS σ 3 v) := bmU h (i32r v).1 (i32r v).2
theorem bmS_4 {σ : PS} {v : Int32} (h : Bm σ) : Bm (upS σ 4 v) := bmU h (i32r v).1 (i32r v).2
theorem bmS_5 {σ : PS} {v : Int32} (h : Bm σ) : Bm (upS σ 5 v) := bmU h (i32r v).1 (i32r v).2
theorem bmS_6 {σ : PS} {v : Int32} (h : Bm σ) : Bm (upS σ 6 v) := bmU h (i32r v).1 (i32r v).2
theorem bmS_7 {σ : PS} {v : Int32} (h : Bm σ) : Bm (upS σ 7 v) := bmU h (i32r v).1 (i32r v).2
theorem bmS_8 {σ : PS} {v : Int32} (h : Bm σ) : Bm (upS σ 8 v) := bmU h (i32r v).1 (i32r v).2
theorem bmS_9 {σ : PS} {v : Int32} (h : Bm σ) : Bm (upS σ 9 v) := bmU h (i32r v).1 (i32r v).2
theorem bmS_10 {σ : PS} {v : Int32} (h : Bm σ) : Bm (upS σ 10 v) := bmU h (i32r v).1 (i32r v).2
theorem bmS_11 {σ : PS} {v : Int32} (h : Bm σ) : Bm (upS σ 11 v) := bmU h (i32r v).1 (i32r v).2
theorem bmS_12 {σ : PS} {v : Int32} (h : Bm σ) : Bm (upS σ 12 v) := bmU h (i32r v).1 (i32r v).2
theorem bmS_13 {σ : PS} {v : Int32} (h : Bm σ) : Bm (upS σ 13 v) := bmU h (i32r v).1 (i32r v).2
theorem bmQ_14 {σ : PS} {v : Int32} (h : Bm σ) (h1 : 0 ≤ v.toInt) (h2 : v.toInt ≤ 1) : Bm (upS σ 14 v) := bmU h h1 h2
theorem bmQ_15 {σ : PS} {v : Int32} (h : Bm σ) (h1 : 0 ≤ v.toInt) (h2 : v.toInt ≤ 1) : Bm (upS σ 15 v) := bmU h h1 h2
theorem bmS_16 {σ : PS} {v : Int32} (h : Bm σ) : Bm (upS σ 16 v) := bmU h (i32r v).1 (i32r v).2
theorem bmS_17 {σ : PS} {v : Int32} (h : Bm σ) : Bm (upS σ 17 v) := bmU h (i32r v).1 (i32r v).2
theorem bmQ_18 {σ : PS} {v : Int32} (h : Bm σ) (h1 : 0 ≤ v.toInt) (h2 : v.toInt ≤ 4) : Bm (upS σ 18 v) := bmU h h1 h2
theorem bmS_19 {σ : PS} {v : Int32} (h : Bm σ) : Bm (upS σ 19 v) := bmU h (i32r v).1 (i32r v).2
theorem bmQ_20 {σ : PS} {v : Int32} (h : Bm σ) (h1 : 0 ≤ v.toInt) (h2 : v.toInt ≤ 1) : Bm (upS σ 20 v) := bmU h h1 h2
theorem bmS_21 {σ : PS} {v : Int32} (h : Bm σ) : Bm (upS σ 21 v) := bmU h (i32r v).1 (i32r v).2
theorem bmS_22 {σ : PS} {v : Int32} (h : Bm σ) : Bm (upS σ 22 v) := bmU h (i32r v).1 (i32r v).2
theorem bmQ_23 {σ : PS} {v : Int32} (h : Bm σ) (h1 : 0 ≤ v.toInt) (h2 : v.toInt ≤ 6000) : Bm (upS σ 23 v) := bmU h h1 h2
theorem bmS_24 {σ : PS} {v : Int32} (h : Bm σ) : Bm (upS σ 24 v) := bmU h (i32r v).1 (i32r v).2
theorem bmQ_25 {σ : PS} {v : Int32} (h : Bm σ) (h1 : 0 ≤ v.toInt) (h2 : v.toInt ≤ 1) : Bm (upS σ 25 v) := bmU h h1 h2
theorem bmS_26 {σ : PS} {v : Int32} (h : Bm σ) : Bm (upS σ 26 v) := bmU h (i32r v).1 (i32r v).2
theorem bmS_27 {σ : PS} {v : Int32} (h : Bm σ) : Bm (upS σ 27 v) := bmU h (i32r v).1 (i32r v).2
theorem bmS_28 {σ : PS} {v : Int32} (h : Bm σ) : Bm (upS σ 28 v) := bmU h (i32r v).1 (i32r v).2
theorem bmS_30 {σ : PS} {v : Int32} (h : Bm σ) : Bm (upS σ 30 v) := bmU h (i32r v).1 (i32r v).2
theorem bmQ_31 {σ : PS} {v : Int32} (h : Bm σ) (h1 : 0 ≤ v.toInt) (h2 : v.toInt ≤ 4096) : Bm (upS σ 31 v) := bmU h h1 h2
theorem bmS_32 {σ : PS} {v : Int32} (h : Bm σ) : Bm (upS σ 32 v) := bmU h (i32r v).1 (i32r v).2
theorem bmg_14 {σ : PS} (h : Bm σ) : 0 ≤ (σ.1 14).toInt ∧ (σ.1 14).toInt ≤ 1 := h.1 14
theorem bmg_15 {σ : PS} (h : Bm σ) : 0 ≤ (σ.1 15).toInt ∧ (σ.1 15).toInt ≤ 1 := h.1 15
theorem bmg_18 {σ : PS} (h : Bm σ) : 0 ≤ (σ.1 18).toInt ∧ (σ.1 18).toInt ≤ 4 := h.1 18
theorem bmg_20 {σ : PS} (h : Bm σ) : 0 ≤ (σ.1 20).toInt ∧ (σ.1 20).toInt ≤ 1 := h.1 20
theorem bmg_23 {σ : PS} (h : Bm σ) : 0 ≤ (σ.1 23).toInt ∧ (σ.1 23).toInt ≤ 6000 := h.1 23
theorem bmg_25 {σ : PS} (h : Bm σ) : 0 ≤ (σ.1 25).toInt ∧ (σ.1 25).toInt ≤ 1 := h.1 25
theorem bmg_29 {σ : PS} (h : Bm σ) : 0 ≤ (σ.1 29).toInt ∧ (σ.1 29).toInt ≤ 16 := h.1 29
theorem bmg_31 {σ : PS} (h : Bm σ) : 0 ≤ (σ.1 31).toInt ∧ (σ.1 31).toInt ≤ 4096 := h.1 31
