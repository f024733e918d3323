def upR (σ : PS) (j : Nat) (f : Nat → Int32) : PS := (σ.1, va_up σ.2.1 j f, σ.2.2)
theorem bxR {σ : PS} {j : Nat} {f : Nat → Int32} (h : Bx σ) : Bx (upR σ j f) := h
section KitR
variable {p : Program} {l : Launch} {e : Env} {R : Room} {s : State} {m : MethodId} {args : Array Value} {below : List Frame} {meth : Method} {c : Code} {H : Heap} {locs : List Loc} {cells slots : Nat} {Q : State → Prop} {cc : ByteArray} {pc : Nat} {ls : Array Slot} {rest : List Value} {own : String} {nL : Nat} {D : va_G} {tys : List (ClassId × FieldType)} {A : Nat → Prop} {H0 : Heap} {a : Nat → Nat} {cA : Nat → ClassId} {σ : PS}
theorem gD_16_0 (K : MC p s m args meth c cc own nL D tys) (hw : WD D A H0 (pdW a cA σ) H locs) {idx : Nat} (hl : Cond.fieldLink own idx "PageDesk$Layout" "top" "I" ∈ TT) (hd : decode cc pc = .ok (.getfield idx, 3)) (kk : W p l e R s m args below meth c H locs cells slots Q (F0 m (pc + 3) ls (.int (σ.1 41) :: rest))) : W p l e R s m args below meth c H locs cells slots Q (F0 m pc ls (.ref (a 16) :: rest)) := gG K hw 16 0 (ci := 1) (T := TX1) (N := 15) rfl rfl (by decide) iX1 hl rfl hd kk
theorem pD_16_0 (K : MC p s m args meth c cc own nL D tys) (hw : WD D A H0 (pdW a cA σ) H locs) {idx : Nat} {v : Int32} (hl : Cond.fieldLink own idx "PageDesk$Layout" "top" "I" ∈ TT) (hd : decode cc pc = .ok (.putfield idx, 3)) (kk : ∀ (H1 : Heap) (locs1 : List Loc), WD D A H0 (pdW a cA (upS σ 41 v)) H1 locs1 → W p l e R s m args below meth c H1 locs1 cells slots Q (F0 m (pc + 3) ls rest)) : W p l e R s m args below meth c H locs cells slots Q (F0 m pc ls (.int v :: .ref (a 16) :: rest)) := gP K hw 16 0 (ci := 1) (T := TX1) (N := 15) (ty := .int) rfl rfl (by decide) iX1 tyX1_ok nmX1 hl rfl rfl rfl rfl (Nat.le_of_ble_eq_true rfl) hd (fun H1 locs1 h => kk H1 locs1 h)
theorem gD_16_1 (K : MC p s m args meth c cc own nL D tys) (hw : WD D A H0 (pdW a cA σ) H locs) {idx : Nat} (hl : Cond.fieldLink own idx "PageDesk$Layout" "length" "I" ∈ TT) (hd : decode cc pc = .ok (.getfield idx, 3)) (kk : W p l e R s m args below meth c H locs cells slots Q (F0 m (pc + 3) ls (.int (σ.1 42) :: rest))) : W p l e R s m args below meth c H locs cells slots Q (F0 m pc ls (.ref (a 16) :: rest)) := gG K hw 16 1 (ci := 1) (T := TX1) (N := 15) rfl rfl (by decide) iX1 hl rfl hd kk
theorem pD_16_1 (K : MC p s m args meth c cc own nL D tys) (hw : WD D A H0 (pdW a cA σ) H locs) {idx : Nat} {v : Int32} (hl : Cond.fieldLink own idx "PageDesk$Layout" "length" "I" ∈ TT) (hd : decode cc pc = .ok (.putfield idx, 3)) (kk : ∀ (H1 : Heap) (locs1 : List Loc), WD D A H0 (pdW a cA (upS σ 42 v)) H1 locs1 → W p l e R s m args below meth c H1 locs1 cells slots Q (F0 m (pc + 3) ls rest)) : W p l e R s m args below meth c H locs cells slots Q (F0 m pc ls (.int v :: .ref (a 16) :: rest)) := gP K hw 16 1 (ci := 1) (T := TX1) (N := 15) (ty := .int) rfl rfl (by decide) iX1 tyX1_ok nmX1 hl rfl rfl rfl rfl (Nat.le_of_ble_eq_true rfl) hd (fun H1 locs1 h => kk H1 locs1 h)
theorem gD_16_2 (K : MC p s m args meth c cc own nL D tys) (hw : WD D A H0 (pdW a cA σ) H locs) {idx : Nat} (hl : Cond.fieldLink own idx "PageDesk$Layout" "left" "I" ∈ TT) (hd : decode cc pc = .ok (.getfield idx, 3)) (kk : W p l e R s m args below meth c H locs cells slots Q (F0 m (pc + 3) ls (.int (σ.1 43) :: rest))) : W p l e R s m args below meth c H locs cells slots Q (F0 m pc ls (.ref (a 16) :: rest)) := gG K hw 16 2 (ci := 1) (T := TX1) (N := 15) rfl rfl (by decide) iX1 hl rfl hd kk
theorem pD_16_2 (K : MC p s m args meth c cc own nL D tys) (hw : WD D A H0 (pdW a cA σ) H locs) {idx : Nat} {v : Int32} (hl : Cond.fieldLink own idx "PageDesk$Layout" "left" "I" ∈ TT) (hd : decode cc pc = .ok (.putfield idx, 3)) (kk : ∀ (H1 : Heap) (locs1 : List Loc), WD D A H0 (pdW a cA (upS σ 43 v)) H1 locs1 → W p l e R s m args below meth c H1 locs1 cells slots Q (F0 m (pc + 3) ls rest)) : W p l e R s m args below meth c H locs cells slots Q (F0 m pc ls (.int v :: .ref (a 16) :: rest)) := gP K hw 16 2 (ci := 1) (T := TX1) (N := 15) (ty := .int) rfl rfl (by decide) iX1 tyX1_ok nmX1 hl rfl rfl rfl rfl (Nat.le_of_ble_eq_true rfl) hd (fun H1 locs1 h => kk H1 locs1 h)
theorem gD_16_3 (K : MC p s m args meth c cc own nL D tys) (hw : WD D A H0 (pdW a cA σ) H locs) {idx : Nat} (hl : Cond.fieldLink own idx "PageDesk$Layout" "right" "I" ∈ TT) (hd : decode cc pc = .ok (.getfield idx, 3)) (kk : W p l e R s m args below meth c H locs cells slots Q (F0 m (pc + 3) ls (.int (σ.1 44) :: rest))) : W p l e R s m args below meth c H locs cells slots Q (F0 m pc ls (.ref (a 16) :: rest)) := gG K hw 16 3 (ci := 1) (T := TX1) (N := 15) rfl rfl (by decide) iX1 hl rfl hd kk
theorem pD_16_3 (K : MC p s m args meth c cc own nL D tys) (hw : WD D A H0 (pdW a cA σ) H locs) {idx : Nat} {v : Int32} (hl : Cond.fieldLink own idx "PageDesk$Layout" "right" "I" ∈ TT) (hd : decode cc pc = .ok (.putfield idx, 3)) (kk : ∀ (H1 : Heap) (locs1 : List Loc), WD D A H0 (pdW a cA (upS σ 44 v)) H1 locs1 → W p l e R s m args below meth c H1 locs1 cells slots Q (F0 m (pc + 3) ls rest)) : W p l e R s m args below meth c H locs cells slots Q (F0 m pc ls (.int v :: .ref (a 16) :: rest)) := gP K hw 16 3 (ci := 1) (T := TX1) (N := 15) (ty := .int) rfl rfl (by decide) iX1 tyX1_ok nmX1 hl rfl rfl rfl rfl (Nat.le_of_ble_eq_true rfl) hd (fun H1 locs1 h => kk H1 locs1 h)
theorem gD_16_4 (K : MC p s m args meth c cc own nL D tys) (hw : WD D A H0 (pdW a cA σ) H locs) {idx : Nat} (hl : Cond.fieldLink own idx "PageDesk$Layout" "stepAcross" "I" ∈ TT) (hd : decode cc pc = .ok (.getfield idx, 3)) (kk : W p l e R s m args below meth c H locs cells slots Q (F0 m (pc + 3) ls (.int (σ.1 45) :: rest))) : W p l e R s m args below meth c H locs cells slots Q (F0 m pc ls (.ref (a 16) :: rest)) := gG K hw 16 4 (ci := 1) (T := TX1) (N := 15) rfl rfl (by decide) iX1 hl rfl hd kk
theorem pD_16_4 (K : MC p s m args meth c cc own nL D tys) (hw : WD D A H0 (pdW a cA σ) H locs) {idx : Nat} {v : Int32} (hl : Cond.fieldLink own idx "PageDesk$Layout" "stepAcross" "I" ∈ TT) (hd : decode cc pc = .ok (.putfield idx, 3)) (kk : ∀ (H1 : Heap) (locs1 : List Loc), WD D A H0 (pdW a cA (upS σ 45 v)) H1 locs1 → W p l e R s m args below meth c H1 locs1 cells slots Q (F0 m (pc + 3) ls rest)) : W p l e R s m args below meth c H locs cells slots Q (F0 m pc ls (.int v :: .ref (a 16) :: rest)) := gP K hw 16 4 (ci := 1) (T := TX1) (N := 15) (ty := .int) rfl rfl (by decide) iX1 tyX1_ok nmX1 hl rfl rfl rfl rfl (Nat.le_of_ble_eq_true rfl) hd (fun H1 locs1 h => kk H1 locs1 h)
theorem gD_16_5 (K : MC p s m args meth c cc own nL D tys) (hw : WD D A H0 (pdW a cA σ) H locs) {idx : Nat} (hl : Cond.fieldLink own idx "PageDesk$Layout" "stepDown" "I" ∈ TT) (hd : decode cc pc = .ok (.getfield idx, 3)) (kk : W p l e R s m args below meth c H locs cells slots Q (F0 m (pc + 3) ls (.int (σ.1 46) :: rest))) : W p l e R s m args below meth c H locs cells slots Q (F0 m pc ls (.ref (a 16) :: rest)) := gG K hw 16 5 (ci := 1) (T := TX1) (N := 15) rfl rfl (by decide) iX1 hl rfl hd kk
theorem pD_16_5 (K : MC p s m args meth c cc own nL D tys) (hw : WD D A H0 (pdW a cA σ) H locs) {idx : Nat} {v : Int32} (hl : Cond.fieldLink own idx "PageDesk$Layout" "stepDown" "I" ∈ TT) (hd : decode cc pc = .ok (.putfield idx, 3)) (kk : ∀ (H1 : Heap) (locs1 : List Loc), WD D A H0 (pdW a cA (upS σ 46 v)) H1 locs1 → W p l e R s m args below meth c H1 locs1 cells slots Q (F0 m (pc + 3) ls rest)) : W p l e R s m args below meth c H locs cells slots Q (F0 m pc ls (.int v :: .ref (a 16) :: rest)) := gP K hw 16 5 (ci := 1) (T := TX1) (N := 15) (ty := .int) rfl rfl (by decide) iX1 tyX1_ok nmX1 hl rfl rfl rfl rfl (Nat.le_of_ble_eq_true rfl) hd (fun H1 locs1 h => kk H1 locs1 h)
theorem gD_16_6 (K : MC p s m args meth c cc own nL D tys) (hw : WD D A H0 (pdW a cA σ) H locs) {idx : Nat} (hl : Cond.fieldLink own idx "PageDesk$Layout" "x" "I" ∈ TT) (hd : decode cc pc = .ok (.getfield idx, 3)) (kk : W p l e R s m args below meth c H locs cells slots Q (F0 m (pc + 3) ls (.int (σ.1 47) :: rest))) : W p l e R s m args below meth c H locs cells slots Q (F0 m pc ls (.ref (a 16) :: rest)) := gG K hw 16 6 (ci := 1) (T := TX1) (N := 15) rfl rfl (by decide) iX1 hl rfl hd kk
theorem pD_16_6 (K : MC p s m args meth c cc own nL D tys) (hw : WD D A H0 (pdW a cA σ) H locs) {idx : Nat} {v : Int32} (hl : Cond.fieldLink own idx "PageDesk$Layout" "x" "I" ∈ TT) (hd : decode cc pc = .ok (.putfield idx, 3)) (kk : ∀ (H1 : Heap) (locs1 : List Loc), WD D A H0 (pdW a cA (upS σ 47 v)) H1 locs1 → W p l e R s m args below meth c H1 locs1 cells slots Q (F0 m (pc + 3) ls rest)) : W p l e R s m args below meth c H locs cells slots Q (F0 m pc ls (.int v :: .ref (a 16) :: rest)) := gP K hw 16 6 (ci := 1) (T := TX1) (N := 15) (ty := .int) rfl rfl (by decide) iX1 tyX1_ok nmX1 hl rfl rfl rfl rfl (Nat.le_of_ble_eq_true rfl) hd (fun H1 locs1 h => kk H1 locs1 h)
theorem gD_16_7 (K : MC p s m args meth c cc own nL D tys) (hw : WD D A H0 (pdW a cA σ) H locs) {idx : Nat} (hl : Cond.fieldLink own idx "PageDesk$Layout" "y" "I" ∈ TT) (hd : decode cc pc = .ok (.getfield idx, 3)) (kk : W p l e R s m args below meth c H locs cells slots Q (F0 m (pc + 3) ls (.int (σ.1 48) :: rest))) : W p l e R s m args below meth c H locs cells slots Q (F0 m pc ls (.ref (a 16) :: rest)) := gG K hw 16 7 (ci := 1) (T := TX1) (N := 15) rfl rfl (by decide) iX1 hl rfl hd kk
theorem pD_16_7 (K : MC p s m args meth c cc own nL D tys) (hw : WD D A H0 (pdW a cA σ) H locs) {idx : Nat} {v : Int32} (hl : Cond.fieldLink own idx "PageDesk$Layout" "y" "I" ∈ TT) (hd : decode cc pc = .ok (.putfield idx, 3)) (kk : ∀ (H1 : Heap) (locs1 : List Loc), WD D A H0 (pdW a cA (upS σ 48 v)) H1 locs1 → W p l e R s m args below meth c H1 locs1 cells slots Q (F0 m (pc + 3) ls rest)) : W p l e R s m args below meth c H locs cells slots Q (F0 m pc ls (.int v :: .ref (a 16) :: rest)) := gP K hw 16 7 (ci := 1) (T := TX1) (N := 15) (ty := .int) rfl rfl (by decide) iX1 tyX1_ok nmX1 hl rfl rfl rfl rfl (Nat.le_of_ble_eq_true rfl) hd (fun H1 locs1 h => kk H1 locs1 h)
theorem gD_16_8 (K : MC p s m args meth c cc own nL D tys) (hw : WD D A H0 (pdW a cA σ) H locs) {idx : Nat} (hl : Cond.fieldLink own idx "PageDesk$Layout" "wrap" "Z" ∈ TT) (hd : decode cc pc = .ok (.getfield idx, 3)) (kk : W p l e R s m args below meth c H locs cells slots Q (F0 m (pc + 3) ls (.int (σ.1 49) :: rest))) : W p l e R s m args below meth c H locs cells slots Q (F0 m pc ls (.ref (a 16) :: rest)) := gG K hw 16 8 (ci := 1) (T := TX1) (N := 15) rfl rfl (by decide) iX1 hl rfl hd kk
theorem pD_16_8 (K : MC p s m args meth c cc own nL D tys) (hw : WD D A H0 (pdW a cA σ) H locs) {idx : Nat} {v : Int32} (hz : narrow .boolean (.int v) = .int v) (hf : fits .boolean (.int v) = true) (hl : Cond.fieldLink own idx "PageDesk$Layout" "wrap" "Z" ∈ TT) (hd : decode cc pc = .ok (.putfield idx, 3)) (kk : ∀ (H1 : Heap) (locs1 : List Loc), WD D A H0 (pdW a cA (upS σ 49 v)) H1 locs1 → W p l e R s m args below meth c H1 locs1 cells slots Q (F0 m (pc + 3) ls rest)) : W p l e R s m args below meth c H locs cells slots Q (F0 m pc ls (.int v :: .ref (a 16) :: rest)) := gP K hw 16 8 (ci := 1) (T := TX1) (N := 15) (ty := .boolean) rfl rfl (by decide) iX1 tyX1_ok nmX1 hl rfl rfl hz hf (Nat.le_of_ble_eq_true rfl) hd (fun H1 locs1 h => kk H1 locs1 h)
theorem gD_16_9 (K : MC p s m args meth c cc own nL D tys) (hw : WD D A H0 (pdW a cA σ) H locs) {idx : Nat} (hl : Cond.fieldLink own idx "PageDesk$Layout" "skip" "Z" ∈ TT) (hd : decode cc pc = .ok (.getfield idx, 3)) (kk : W p l e R s m args below meth c H locs cells slots Q (F0 m (pc + 3) ls (.int (σ.1 50) :: rest))) : W p l e R s m args below meth c H locs cells slots Q (F0 m pc ls (.ref (a 16) :: rest)) := gG K hw 16 9 (ci := 1) (T := TX1) (N := 15) rfl rfl (by decide) iX1 hl rfl hd kk
theorem pD_16_9 (K : MC p s m args meth c cc own nL D tys) (hw : WD D A H0 (pdW a cA σ) H locs) {idx : Nat} {v : Int32} (hz : narrow .boolean (.int v) = .int v) (hf : fits .boolean (.int v) = true) (hl : Cond.fieldLink own idx "PageDesk$Layout" "skip" "Z" ∈ TT) (hd : decode cc pc = .ok (.putfield idx, 3)) (kk : ∀ (H1 : Heap) (locs1 : List Loc), WD D A H0 (pdW a cA (upS σ 50 v)) H1 locs1 → W p l e R s m args below meth c H1 locs1 cells slots Q (F0 m (pc + 3) ls rest)) : W p l e R s m args below meth c H locs cells slots Q (F0 m pc ls (.int v :: .ref (a 16) :: rest)) := gP K hw 16 9 (ci := 1) (T := TX1) (N := 15) (ty := .boolean) rfl rfl (by decide) iX1 tyX1_ok nmX1 hl rfl rfl hz hf (Nat.le_of_ble_eq_true rfl) hd (fun H1 locs1 h => kk H1 locs1 h)
theorem gD_16_10 (K : MC p s m args meth c cc own nL D tys) (hw : WD D A H0 (pdW a cA σ) H locs) {idx : Nat} (hl : Cond.fieldLink own idx "PageDesk$Layout" "lineEnd" "I" ∈ TT) (hd : decode cc pc = .ok (.getfield idx, 3)) (kk : W p l e R s m args below meth c H locs cells slots Q (F0 m (pc + 3) ls (.int (σ.1 51) :: rest))) : W p l e R s m args below meth c H locs cells slots Q (F0 m pc ls (.ref (a 16) :: rest)) := gG K hw 16 10 (ci := 1) (T := TX1) (N := 15) rfl rfl (by decide) iX1 hl rfl hd kk
theorem pD_16_10 (K : MC p s m args meth c cc own nL D tys) (hw : WD D A H0 (pdW a cA σ) H locs) {idx : Nat} {v : Int32} (hl : Cond.fieldLink own idx "PageDesk$Layout" "lineEnd" "I" ∈ TT) (hd : decode cc pc = .ok (.putfield idx, 3)) (kk : ∀ (H1 : Heap) (locs1 : List Loc), WD D A H0 (pdW a cA (upS σ 51 v)) H1 locs1 → W p l e R s m args below meth c H1 locs1 cells slots Q (F0 m (pc + 3) ls rest)) : W p l e R s m args below meth c H locs cells slots Q (F0 m pc ls (.int v :: .ref (a 16) :: rest)) := gP K hw 16 10 (ci := 1) (T := TX1) (N := 15) (ty := .int) rfl rfl (by decide) iX1 tyX1_ok nmX1 hl rfl rfl rfl rfl (Nat.le_of_ble_eq_true rfl) hd (fun H1 locs1 h => kk H1 locs1 h)
theorem gD_16_11 (K : MC p s m args meth c cc own nL D tys) (hw : WD D A H0 (pdW a cA σ) H locs) {idx : Nat} (hl : Cond.fieldLink own idx "PageDesk$Layout" "font" "I" ∈ TT) (hd : decode cc pc = .ok (.getfield idx, 3)) (kk : W p l e R s m args below meth c H locs cells slots Q (F0 m (pc + 3) ls (.int (σ.1 52) :: rest))) : W p l e R s m args below meth c H locs cells slots Q (F0 m pc ls (.ref (a 16) :: rest)) := gG K hw 16 11 (ci := 1) (T := TX1) (N := 15) rfl rfl (by decide) iX1 hl rfl hd kk
theorem pD_16_11 (K : MC p s m args meth c cc own nL D tys) (hw : WD D A H0 (pdW a cA σ) H locs) {idx : Nat} {v : Int32} (hl : Cond.fieldLink own idx "PageDesk$Layout" "font" "I" ∈ TT) (hd : decode cc pc = .ok (.putfield idx, 3)) (kk : ∀ (H1 : Heap) (locs1 : List Loc), WD D A H0 (pdW a cA (upS σ 52 v)) H1 locs1 → W p l e R s m args below meth c H1 locs1 cells slots Q (F0 m (pc + 3) ls rest)) : W p l e R s m args below meth c H locs cells slots Q (F0 m pc ls (.int v :: .ref (a 16) :: rest)) := gP K hw 16 11 (ci := 1) (T := TX1) (N := 15) (ty := .int) rfl rfl (by decide) iX1 tyX1_ok nmX1 hl rfl rfl rfl rfl (Nat.le_of_ble_eq_true rfl) hd (fun H1 locs1 h => kk H1 locs1 h)
theorem gD_16_12 (K : MC p s m args meth c cc own nL D tys) (hw : WD D A H0 (pdW a cA σ) H locs) {idx : Nat} (hl : Cond.fieldLink own idx "PageDesk$Layout" "depth" "I" ∈ TT) (hd : decode cc pc = .ok (.getfield idx, 3)) (kk : W p l e R s m args below meth c H locs cells slots Q (F0 m (pc + 3) ls (.int (σ.1 53) :: rest))) : W p l e R s m args below meth c H locs cells slots Q (F0 m pc ls (.ref (a 16) :: rest)) := gG K hw 16 12 (ci := 1) (T := TX1) (N := 15) rfl rfl (by decide) iX1 hl rfl hd kk
theorem pD_16_12 (K : MC p s m args meth c cc own nL D tys) (hw : WD D A H0 (pdW a cA σ) H locs) {idx : Nat} {v : Int32} (hl : Cond.fieldLink own idx "PageDesk$Layout" "depth" "I" ∈ TT) (hd : decode cc pc = .ok (.putfield idx, 3)) (kk : ∀ (H1 : Heap) (locs1 : List Loc), WD D A H0 (pdW a cA (upS σ 53 v)) H1 locs1 → W p l e R s m args below meth c H1 locs1 cells slots Q (F0 m (pc + 3) ls rest)) : W p l e R s m args below meth c H locs cells slots Q (F0 m pc ls (.int v :: .ref (a 16) :: rest)) := gP K hw 16 12 (ci := 1) (T := TX1) (N := 15) (ty := .int) rfl rfl (by decide) iX1 tyX1_ok nmX1 hl rfl rfl rfl rfl (Nat.le_of_ble_eq_true rfl) hd (fun H1 locs1 h => kk H1 locs1 h)
theorem gD_16_13 (K : MC p s m args meth c cc own nL D tys) (hw : WD D A H0 (pdW a cA σ) H locs) {idx : Nat} (hl : Cond.fieldLink own idx "PageDesk$Layout" "stackX" "[I" ∈ TT) (hd : decode cc pc = .ok (.getfield idx, 3)) (kk : W p l e R s m args below meth c H locs cells slots Q (F0 m (pc + 3) ls (.ref (a 19) :: rest))) : W p l e R s m args below meth c H locs cells slots Q (F0 m pc ls (.ref (a 16) :: rest)) := gG K hw 16 13 (ci := 1) (T := TX1) (N := 15) rfl rfl (by decide) iX1 hl rfl hd kk
theorem gD_16_14 (K : MC p s m args meth c cc own nL D tys) (hw : WD D A H0 (pdW a cA σ) H locs) {idx : Nat} (hl : Cond.fieldLink own idx "PageDesk$Layout" "stackY" "[I" ∈ TT) (hd : decode cc pc = .ok (.getfield idx, 3)) (kk : W p l e R s m args below meth c H locs cells slots Q (F0 m (pc + 3) ls (.ref (a 20) :: rest))) : W p l e R s m args below meth c H locs cells slots Q (F0 m pc ls (.ref (a 16) :: rest)) := gG K hw 16 14 (ci := 1) (T := TX1) (N := 15) rfl rfl (by decide) iX1 hl rfl hd kk
theorem gD_17_0 (K : MC p s m args meth c cc own nL D tys) (hw : WD D A H0 (pdW a cA σ) H locs) {idx : Nat} (hl : Cond.fieldLink own idx "PageDesk$Layout" "top" "I" ∈ TT) (hd : decode cc pc = .ok (.getfield idx, 3)) (kk : W p l e R s m args below meth c H locs cells slots Q (F0 m (pc + 3) ls (.int (σ.1 54) :: rest))) : W p l e R s m args below meth c H locs cells slots Q (F0 m pc ls (.ref (a 17) :: rest)) := gG K hw 17 0 (ci := 1) (T := TX1) (N := 15) rfl rfl (by decide) iX1 hl rfl hd kk
theorem pD_17_0 (K : MC p s m args meth c cc own nL D tys) (hw : WD D A H0 (pdW a cA σ) H locs) {idx : Nat} {v : Int32} (hl : Cond.fieldLink own idx "PageDesk$Layout" "top" "I" ∈ TT) (hd : decode cc pc = .ok (.putfield idx, 3)) (kk : ∀ (H1 : Heap) (locs1 : List Loc), WD D A H0 (pdW a cA (upS σ 54 v)) H1 locs1 → W p l e R s m args below meth c H1 locs1 cells slots Q (F0 m (pc + 3) ls rest)) : W p l e R s m args below meth c H locs cells slots Q (F0 m pc ls (.int v :: .ref (a 17) :: rest)) := gP K hw 17 0 (ci := 1) (T := TX1) (N := 15) (ty := .int) rfl rfl (by decide) iX1 tyX1_ok nmX1 hl rfl rfl rfl rfl (Nat.le_of_ble_eq_true rfl) hd (fun H1 locs1 h => kk H1 locs1 h)
theorem gD_17_1 (K : MC p s m args meth c cc own nL D tys) (hw : WD D A H0 (pdW a cA σ) H locs) {idx : Nat} (hl : Cond.fieldLink own idx "PageDesk$Layout" "length" "I" ∈ TT) (hd : decode cc pc = .ok (.getfield idx, 3)) (kk : W p l e R s m args below meth c H locs cells slots Q (F0 m (pc + 3) ls (.int (σ.1 55) :: rest))) : W p l e R s m args below meth c H locs cells slots Q (F0 m pc ls (.ref (a 17) :: rest)) := gG K hw 17 1 (ci := 1) (T := TX1) (N := 15) rfl rfl (by decide) iX1 hl rfl hd kk
theorem pD_17_1 (K : MC p s m args meth c cc own nL D tys) (hw : WD D A H0 (pdW a cA σ) H locs) {idx : Nat} {v : Int32} (hl : Cond.fieldLink own idx "PageDesk$Layout" "length" "I" ∈ TT) (hd : decode cc pc = .ok (.putfield idx, 3)) (kk : ∀ (H1 : Heap) (locs1 : List Loc), WD D A H0 (pdW a cA (upS σ 55 v)) H1 locs1 → W p l e R s m args below meth c H1 locs1 cells slots Q (F0 m (pc + 3) ls rest)) : W p l e R s m args below meth c H locs cells slots Q (F0 m pc ls (.int v :: .ref (a 17) :: rest)) := gP K hw 17 1 (ci := 1) (T := TX1) (N := 15) (ty := .int) rfl rfl (by decide) iX1 tyX1_ok nmX1 hl rfl rfl rfl rfl (Nat.le_of_ble_eq_true rfl) hd (fun H1 locs1 h => kk H1 locs1 h)
theorem gD_17_2 (K : MC p s m args meth c cc own nL D tys) (hw : WD D A H0 (pdW a cA σ) H locs) {idx : Nat} (hl : Cond.fieldLink own idx "PageDesk$Layout" "left" "I" ∈ TT) (hd : decode cc pc = .ok (.getfield idx, 3)) (kk : W p l e R s m args below meth c H locs cells slots Q (F0 m (pc + 3) ls (.int (σ.1 56) :: rest))) : W p l e R s m args below meth c H locs cells slots Q (F0 m pc ls (.ref (a 17) :: rest)) := gG K hw 17 2 (ci := 1) (T := TX1) (N := 15) rfl rfl (by decide) iX1 hl rfl hd kk
theorem pD_17_2 (K : MC p s m args meth c cc own nL D tys) (hw : WD D A H0 (pdW a cA σ) H locs) {idx : Nat} {v : Int32} (hl : Cond.fieldLink own idx "PageDesk$Layout" "left" "I" ∈ TT) (hd : decode cc pc = .ok (.putfield idx, 3)) (kk : ∀ (H1 : Heap) (locs1 : List Loc), WD D A H0 (pdW a cA (upS σ 56 v)) H1 locs1 → W p l e R s m args below meth c H1 locs1 cells slots Q (F0 m (pc + 3) ls rest)) : W p l e R s m args below meth c H locs cells slots Q (F0 m pc ls (.int v :: .ref (a 17) :: rest)) := gP K hw 17 2 (ci := 1) (T := TX1) (N := 15) (ty := .int) rfl rfl (by decide) iX1 tyX1_ok nmX1 hl rfl rfl rfl rfl (Nat.le_of_ble_eq_true rfl) hd (fun H1 locs1 h => kk H1 locs1 h)
theorem gD_17_3 (K : MC p s m args meth c cc own nL D tys) (hw : WD D A H0 (pdW a cA σ) H locs) {idx : Nat} (hl : Cond.fieldLink own idx "PageDesk$Layout" "right" "I" ∈ TT) (hd : decode cc pc = .ok (.getfield idx, 3)) (kk : W p l e R s m args below meth c H locs cells slots Q (F0 m (pc + 3) ls (.int (σ.1 57) :: rest))) : W p l e R s m args below meth c H locs cells slots Q (F0 m pc ls (.ref (a 17) :: rest)) := gG K hw 17 3 (ci := 1) (T := TX1) (N := 15) rfl rfl (by decide) iX1 hl rfl hd kk
theorem pD_17_3 (K : MC p s m args meth c cc own nL D tys) (hw : WD D A H0 (pdW a cA σ) H locs) {idx : Nat} {v : Int32} (hl : Cond.fieldLink own idx "PageDesk$Layout" "right" "I" ∈ TT) (hd : decode cc pc = .ok (.putfield idx, 3)) (kk : ∀ (H1 : Heap) (locs1 : List Loc), WD D A H0 (pdW a cA (upS σ 57 v)) H1 locs1 → W p l e R s m args below meth c H1 locs1 cells slots Q (F0 m (pc + 3) ls rest)) : W p l e R s m args below meth c H locs cells slots Q (F0 m pc ls (.int v :: .ref (a 17) :: rest)) := gP K hw 17 3 (ci := 1) (T := TX1) (N := 15) (ty := .int) rfl rfl (by decide) iX1 tyX1_ok nmX1 hl rfl rfl rfl rfl (Nat.le_of_ble_eq_true rfl) hd (fun H1 locs1 h => kk H1 locs1 h)
theorem gD_17_4 (K : MC p s m args meth c cc own nL D tys) (hw : WD D A H0 (pdW a cA σ) H locs) {idx : Nat} (hl : Cond.fieldLink own idx "PageDesk$Layout" "stepAcross" "I" ∈ TT) (hd : decode cc pc = .ok (.getfield idx, 3)) (kk : W p l e R s m args below meth c H locs cells slots Q (F0 m (pc + 3) ls (.int (σ.1 58) :: rest))) : W p l e R s m args below meth c H locs cells slots Q (F0 m pc ls (.ref (a 17) :: rest)) := gG K hw 17 4 (ci := 1) (T := TX1) (N := 15) rfl rfl (by decide) iX1 hl rfl hd kk
theorem pD_17_4 (K : MC p s m args meth c cc own nL D tys) (hw : WD D A H0 (pdW a cA σ) H locs) {idx : Nat} {v : Int32} (hl : Cond.fieldLink own idx "PageDesk$Layout" "stepAcross" "I" ∈ TT) (hd : decode cc pc = .ok (.putfield idx, 3)) (kk : ∀ (H1 : Heap) (locs1 : List Loc), WD D A H0 (pdW a cA (upS σ 58 v)) H1 locs1 → W p l e R s m args below meth c H1 locs1 cells slots Q (F0 m (pc + 3) ls rest)) : W p l e R s m args below meth c H locs cells slots Q (F0 m pc ls (.int v :: .ref (a 17) :: rest)) := gP K hw 17 4 (ci := 1) (T := TX1) (N := 15) (ty := .int) rfl rfl (by decide) iX1 tyX1_ok nmX1 hl rfl rfl rfl rfl (Nat.le_of_ble_eq_true rfl) hd (fun H1 locs1 h => kk H1 locs1 h)
theorem gD_17_5 (K : MC p s m args meth c cc own nL D tys) (hw : WD D A H0 (pdW a cA σ) H locs) {idx : Nat} (hl : Cond.fieldLink own idx "PageDesk$Layout" "stepDown" "I" ∈ TT) (hd : decode cc pc = .ok (.getfield idx, 3)) (kk : W p l e R s m args below meth c H locs cells slots Q (F0 m (pc + 3) ls (.int (σ.1 59) :: rest))) : W p l e R s m args below meth c H locs cells slots Q (F0 m pc ls (.ref (a 17) :: rest)) := gG K hw 17 5 (ci := 1) (T := TX1) (N := 15) rfl rfl (by decide) iX1 hl rfl hd kk
theorem pD_17_5 (K : MC p s m args meth c cc own nL D tys) (hw : WD D A H0 (pdW a cA σ) H locs) {idx : Nat} {v : Int32} (hl : Cond.fieldLink own idx "PageDesk$Layout" "stepDown" "I" ∈ TT) (hd : decode cc pc = .ok (.putfield idx, 3)) (kk : ∀ (H1 : Heap) (locs1 : List Loc), WD D A H0 (pdW a cA (upS σ 59 v)) H1 locs1 → W p l e R s m args below meth c H1 locs1 cells slots Q (F0 m (pc + 3) ls rest)) : W p l e R s m args below meth c H locs cells slots Q (F0 m pc ls (.int v :: .ref (a 17) :: rest)) := gP K hw 17 5 (ci := 1) (T := TX1) (N := 15) (ty := .int) rfl rfl (by decide) iX1 tyX1_ok nmX1 hl rfl rfl rfl rfl (Nat.le_of_ble_eq_true rfl) hd (fun H1 locs1 h => kk H1 locs1 h)
theorem gD_17_6 (K : MC p s m args meth c cc own nL D tys) (hw : WD D A H0 (pdW a cA σ) H locs) {idx : Nat} (hl : Cond.fieldLink own idx "PageDesk$Layout" "x" "I" ∈ TT) (hd : decode cc pc = .ok (.getfield idx, 3)) (kk : W p l e R s m args below meth c H locs cells slots Q (F0 m (pc + 3) ls (.int (σ.1 60) :: rest))) : W p l e R s m args below meth c H locs cells slots Q (F0 m pc ls (.ref (a 17) :: rest)) := gG K hw 17 6 (ci := 1) (T := TX1) (N := 15) rfl rfl (by decide) iX1 hl rfl hd kk
theorem pD_17_6 (K : MC p s m args meth c cc own nL D tys) (hw : WD D A H0 (pdW a cA σ) H locs) {idx : Nat} {v : Int32} (hl : Cond.fieldLink own idx "PageDesk$Layout" "x" "I" ∈ TT) (hd : decode cc pc = .ok (.putfield idx, 3)) (kk : ∀ (H1 : Heap) (locs1 : List Loc), WD D A H0 (pdW a cA (upS σ 60 v)) H1 locs1 → W p l e R s m args below meth c H1 locs1 cells slots Q (F0 m (pc + 3) ls rest)) : W p l e R s m args below meth c H locs cells slots Q (F0 m pc ls (.int v :: .ref (a 17) :: rest)) := gP K hw 17 6 (ci := 1) (T := TX1) (N := 15) (ty := .int) rfl rfl (by decide) iX1 tyX1_ok nmX1 hl rfl rfl rfl rfl (Nat.le_of_ble_eq_true rfl) hd (fun H1 locs1 h => kk H1 locs1 h)
theorem gD_17_7 (K : MC p s m args meth c cc own nL D tys) (hw : WD D A H0 (pdW a cA σ) H locs) {idx : Nat} (hl : Cond.fieldLink own idx "PageDesk$Layout" "y" "I" ∈ TT) (hd : decode cc pc = .ok (.getfield idx, 3)) (kk : W p l e R s m args below meth c H locs cells slots Q (F0 m (pc + 3) ls (.int (σ.1 61) :: rest))) : W p l e R s m args below meth c H locs cells slots Q (F0 m pc ls (.ref (a 17) :: rest)) := gG K hw 17 7 (ci := 1) (T := TX1) (N := 15) rfl rfl (by decide) iX1 hl rfl hd kk
theorem pD_17_7 (K : MC p s m args meth c cc own nL D tys) (hw : WD D A H0 (pdW a cA σ) H locs) {idx : Nat} {v : Int32} (hl : Cond.fieldLink own idx "PageDesk$Layout" "y" "I" ∈ TT) (hd : decode cc pc = .ok (.putfield idx, 3)) (kk : ∀ (H1 : Heap) (locs1 : List Loc), WD D A H0 (pdW a cA (upS σ 61 v)) H1 locs1 → W p l e R s m args below meth c H1 locs1 cells slots Q (F0 m (pc + 3) ls rest)) : W p l e R s m args below meth c H locs cells slots Q (F0 m pc ls (.int v :: .ref (a 17) :: rest)) := gP K hw 17 7 (ci := 1) (T := TX1) (N := 15) (ty := .int) rfl rfl (by decide) iX1 tyX1_ok nmX1 hl rfl rfl rfl rfl (Nat.le_of_ble_eq_true rfl) hd (fun H1 locs1 h => kk H1 locs1 h)
theorem gD_17_8 (K : MC p s m args meth c cc own nL D tys) (hw : WD D A H0 (pdW a cA σ) H locs) {idx : Nat} (hl : Cond.fieldLink own idx "PageDesk$Layout" "wrap" "Z" ∈ TT) (hd : decode cc pc = .ok (.getfield idx, 3)) (kk : W p l e R s m args below meth c H locs cells slots Q (F0 m (pc + 3) ls (.int (σ.1 62) :: rest))) : W p l e R s m args below meth c H locs cells slots Q (F0 m pc ls (.ref (a 17) :: rest)) := gG K hw 17 8 (ci := 1) (T := TX1) (N := 15) rfl rfl (by decide) iX1 hl rfl hd kk
theorem pD_17_8 (K : MC p s m args meth c cc own nL D tys) (hw : WD D A H0 (pdW a cA σ) H locs) {idx : Nat} {v : Int32} (hz : narrow .boolean (.int v) = .int v) (hf : fits .boolean (.int v) = true) (hl : Cond.fieldLink own idx "PageDesk$Layout" "wrap" "Z" ∈ TT) (hd : decode cc pc = .ok (.putfield idx, 3)) (kk : ∀ (H1 : Heap) (locs1 : List Loc), WD D A H0 (pdW a cA (upS σ 62 v)) H1 locs1 → W p l e R s m args below meth c H1 locs1 cells slots Q (F0 m (pc + 3) ls rest)) : W p l e R s m args below meth c H locs cells slots Q (F0 m pc ls (.int v :: .ref (a 17) :: rest)) := gP K hw 17 8 (ci := 1) (T := TX1) (N := 15) (ty := .boolean) rfl rfl (by decide) iX1 tyX1_ok nmX1 hl rfl rfl hz hf (Nat.le_of_ble_eq_true rfl) hd (fun H1 locs1 h => kk H1 locs1 h)
theorem gD_17_9 (K : MC p s m args meth c cc own nL D tys) (hw : WD D A H0 (pdW a cA σ) H locs) {idx : Nat} (hl : Cond.fieldLink own idx "PageDesk$Layout" "skip" "Z" ∈ TT) (hd : decode cc pc = .ok (.getfield idx, 3)) (kk : W p l e R s m args below meth c H locs cells slots Q (F0 m (pc + 3) ls (.int (σ.1 63) :: rest))) : W p l e R s m args below meth c H locs cells slots Q (F0 m pc ls (.ref (a 17) :: rest)) := gG K hw 17 9 (ci := 1) (T := TX1) (N := 15) rfl rfl (by decide) iX1 hl rfl hd kk
theorem pD_17_9 (K : MC p s m args meth c cc own nL D tys) (hw : WD D A H0 (pdW a cA σ) H locs) {idx : Nat} {v : Int32} (hz : narrow .boolean (.int v) = .int v) (hf : fits .boolean (.int v) = true) (hl : Cond.fieldLink own idx "PageDesk$Layout" "skip" "Z" ∈ TT) (hd : decode cc pc = .ok (.putfield idx, 3)) (kk : ∀ (H1 : Heap) (locs1 : List Loc), WD D A H0 (pdW a cA (upS σ 63 v)) H1 locs1 → W p l e R s m args below meth c H1 locs1 cells slots Q (F0 m (pc + 3) ls rest)) : W p l e R s m args below meth c H locs cells slots Q (F0 m pc ls (.int v :: .ref (a 17) :: rest)) := gP K hw 17 9 (ci := 1) (T := TX1) (N := 15) (ty := .boolean) rfl rfl (by decide) iX1 tyX1_ok nmX1 hl rfl rfl hz hf (Nat.le_of_ble_eq_true rfl) hd (fun H1 locs1 h => kk H1 locs1 h)
theorem gD_17_10 (K : MC p s m args meth c cc own nL D tys) (hw : WD D A H0 (pdW a cA σ) H locs) {idx : Nat} (hl : Cond.fieldLink own idx "PageDesk$Layout" "lineEnd" "I" ∈ TT) (hd : decode cc pc = .ok (.getfield idx, 3)) (kk : W p l e R s m args below meth c H locs cells slots Q (F0 m (pc + 3) ls (.int (σ.1 64) :: rest))) : W p l e R s m args below meth c H locs cells slots Q (F0 m pc ls (.ref (a 17) :: rest)) := gG K hw 17 10 (ci := 1) (T := TX1) (N := 15) rfl rfl (by decide) iX1 hl rfl hd kk
theorem pD_17_10 (K : MC p s m args meth c cc own nL D tys) (hw : WD D A H0 (pdW a cA σ) H locs) {idx : Nat} {v : Int32} (hl : Cond.fieldLink own idx "PageDesk$Layout" "lineEnd" "I" ∈ TT) (hd : decode cc pc = .ok (.putfield idx, 3)) (kk : ∀ (H1 : Heap) (locs1 : List Loc), WD D A H0 (pdW a cA (upS σ 64 v)) H1 locs1 → W p l e R s m args below meth c H1 locs1 cells slots Q (F0 m (pc + 3) ls rest)) : W p l e R s m args below meth c H locs cells slots Q (F0 m pc ls (.int v :: .ref (a 17) :: rest)) := gP K hw 17 10 (ci := 1) (T := TX1) (N := 15) (ty := .int) rfl rfl (by decide) iX1 tyX1_ok nmX1 hl rfl rfl rfl rfl (Nat.le_of_ble_eq_true rfl) hd (fun H1 locs1 h => kk H1 locs1 h)
theorem gD_17_11 (K : MC p s m args meth c cc own nL D tys) (hw : WD D A H0 (pdW a cA σ) H locs) {idx : Nat} (hl : Cond.fieldLink own idx "PageDesk$Layout" "font" "I" ∈ TT) (hd : decode cc pc = .ok (.getfield idx, 3)) (kk : W p l e R s m args below meth c H locs cells slots Q (F0 m (pc + 3) ls (.int (σ.1 65) :: rest))) : W p l e R s m args below meth c H locs cells slots Q (F0 m pc ls (.ref (a 17) :: rest)) := gG K hw 17 11 (ci := 1) (T := TX1) (N := 15) rfl rfl (by decide) iX1 hl rfl hd kk
theorem pD_17_11 (K : MC p s m args meth c cc own nL D tys) (hw : WD D A H0 (pdW a cA σ) H locs) {idx : Nat} {v : Int32} (hl : Cond.fieldLink own idx "PageDesk$Layout" "font" "I" ∈ TT) (hd : decode cc pc = .ok (.putfield idx, 3)) (kk : ∀ (H1 : Heap) (locs1 : List Loc), WD D A H0 (pdW a cA (upS σ 65 v)) H1 locs1 → W p l e R s m args below meth c H1 locs1 cells slots Q (F0 m (pc + 3) ls rest)) : W p l e R s m args below meth c H locs cells slots Q (F0 m pc ls (.int v :: .ref (a 17) :: rest)) := gP K hw 17 11 (ci := 1) (T := TX1) (N := 15) (ty := .int) rfl rfl (by decide) iX1 tyX1_ok nmX1 hl rfl rfl rfl rfl (Nat.le_of_ble_eq_true rfl) hd (fun H1 locs1 h => kk H1 locs1 h)
theorem gD_17_12 (K : MC p s m args meth c cc own nL D tys) (hw : WD D A H0 (pdW a cA σ) H locs) {idx : Nat} (hl : Cond.fieldLink own idx "PageDesk$Layout" "depth" "I" ∈ TT) (hd : decode cc pc = .ok (.getfield idx, 3)) (kk : W p l e R s m args below meth c H locs cells slots Q (F0 m (pc + 3) ls (.int (σ.1 66) :: rest))) : W p l e R s m args below meth c H locs cells slots Q (F0 m pc ls (.ref (a 17) :: rest)) := gG K hw 17 12 (ci := 1) (T := TX1) (N := 15) rfl rfl (by decide) iX1 hl rfl hd kk
theorem pD_17_12 (K : MC p s m args meth c cc own nL D tys) (hw : WD D A H0 (pdW a cA σ) H locs) {idx : Nat} {v : Int32} (hl : Cond.fieldLink own idx "PageDesk$Layout" "depth" "I" ∈ TT) (hd : decode cc pc = .ok (.putfield idx, 3)) (kk : ∀ (H1 : Heap) (locs1 : List Loc), WD D A H0 (pdW a cA (upS σ 66 v)) H1 locs1 → W p l e R s m args below meth c H1 locs1 cells slots Q (F0 m (pc + 3) ls rest)) : W p l e R s m args below meth c H locs cells slots Q (F0 m pc ls (.int v :: .ref (a 17) :: rest)) := gP K hw 17 12 (ci := 1) (T := TX1) (N := 15) (ty := .int) rfl rfl (by decide) iX1 tyX1_ok nmX1 hl rfl rfl rfl rfl (Nat.le_of_ble_eq_true rfl) hd (fun H1 locs1 h => kk H1 locs1 h)
theorem gD_17_13 (K : MC p s m args meth c cc own nL D tys) (hw : WD D A H0 (pdW a cA σ) H locs) {idx : Nat} (hl : Cond.fieldLink own idx "PageDesk$Layout" "stackX" "[I" ∈ TT) (hd : decode cc pc = .ok (.getfield idx, 3)) (kk : W p l e R s m args below meth c H locs cells slots Q (F0 m (pc + 3) ls (.ref (a 21) :: rest))) : W p l e R s m args below meth c H locs cells slots Q (F0 m pc ls (.ref (a 17) :: rest)) := gG K hw 17 13 (ci := 1) (T := TX1) (N := 15) rfl rfl (by decide) iX1 hl rfl hd kk
theorem gD_17_14 (K : MC p s m args meth c cc own nL D tys) (hw : WD D A H0 (pdW a cA σ) H locs) {idx : Nat} (hl : Cond.fieldLink own idx "PageDesk$Layout" "stackY" "[I" ∈ TT) (hd : decode cc pc = .ok (.getfield idx, 3)) (kk : W p l e R s m args below meth c H locs cells slots Q (F0 m (pc + 3) ls (.ref (a 22) :: rest))) : W p l e R s m args below meth c H locs cells slots Q (F0 m pc ls (.ref (a 17) :: rest)) := gG K hw 17 14 (ci := 1) (T := TX1) (N := 15) rfl rfl (by decide) iX1 hl rfl hd kk
theorem gD_18_0 (K : MC p s m args meth c cc own nL D tys) (hw : WD D A H0 (pdW a cA σ) H locs) {idx : Nat} (hl : Cond.fieldLink own idx "PageDesk$Layout" "top" "I" ∈ TT) (hd : decode cc pc = .ok (.getfield idx, 3)) (kk : W p l e R s m args below meth c H locs cells slots Q (F0 m (pc + 3) ls (.int (σ.1 67) :: rest))) : W p l e R s m args below meth c H locs cells slots Q (F0 m pc ls (.ref (a 18) :: rest)) := gG K hw 18 0 (ci := 1) (T := TX1) (N := 15) rfl rfl (by decide) iX1 hl rfl hd kk
theorem pD_18_0 (K : MC p s m args meth c cc own nL D tys) (hw : WD D A H0 (pdW a cA σ) H locs) {idx : Nat} {v : Int32} (hl : Cond.fieldLink own idx "PageDesk$Layout" "top" "I" ∈ TT) (hd : decode cc pc = .ok (.putfield idx, 3)) (kk : ∀ (H1 : Heap) (locs1 : List Loc), WD D A H0 (pdW a cA (upS σ 67 v)) H1 locs1 → W p l e R s m args below meth c H1 locs1 cells slots Q (F0 m (pc + 3) ls rest)) : W p l e R s m args below meth c H locs cells slots Q (F0 m pc ls (.int v :: .ref (a 18) :: rest)) := gP K hw 18 0 (ci := 1) (T := TX1) (N := 15) (ty := .int) rfl rfl (by decide) iX1 tyX1_ok nmX1 hl rfl rfl rfl rfl (Nat.le_of_ble_eq_true rfl) hd (fun H1 locs1 h => kk H1 locs1 h)
theorem gD_18_1 (K : MC p s m args meth c cc own nL D tys) (hw : WD D A H0 (pdW a cA σ) H locs) {idx : Nat} (hl : Cond.fieldLink own idx "PageDesk$Layout" "length" "I" ∈ TT) (hd : decode cc pc = .ok (.getfield idx, 3)) (kk : W p l e R s m args below meth c H locs cells slots Q (F0 m (pc + 3) ls (.int (σ.1 68) :: rest))) : W p l e R s m args below meth c H locs cells slots Q (F0 m pc ls (.ref (a 18) :: rest)) := gG K hw 18 1 (ci := 1) (T := TX1) (N := 15) rfl rfl (by decide) iX1 hl rfl hd kk
theorem pD_18_1 (K : MC p s m args meth c cc own nL D tys) (hw : WD D A H0 (pdW a cA σ) H locs) {idx : Nat} {v : Int32} (hl : Cond.fieldLink own idx "PageDesk$Layout" "length" "I" ∈ TT) (hd : decode cc pc = .ok (.putfield idx, 3)) (kk : ∀ (H1 : Heap) (locs1 : List Loc), WD D A H0 (pdW a cA (upS σ 68 v)) H1 locs1 → W p l e R s m args below meth c H1 locs1 cells slots Q (F0 m (pc + 3) ls rest)) : W p l e R s m args below meth c H locs cells slots Q (F0 m pc ls (.int v :: .ref (a 18) :: rest)) := gP K hw 18 1 (ci := 1) (T := TX1) (N := 15) (ty := .int) rfl rfl (by decide) iX1 tyX1_ok nmX1 hl rfl rfl rfl rfl (Nat.le_of_ble_eq_true rfl) hd (fun H1 locs1 h => kk H1 locs1 h)
theorem gD_18_2 (K : MC p s m args meth c cc own nL D tys) (hw : WD D A H0 (pdW a cA σ) H locs) {idx : Nat} (hl : Cond.fieldLink own idx "PageDesk$Layout" "left" "I" ∈ TT) (hd : decode cc pc = .ok (.getfield idx, 3)) (kk : W p l e R s m args below meth c H locs cells slots Q (F0 m (pc + 3) ls (.int (σ.1 69) :: rest))) : W p l e R s m args below meth c H locs cells slots Q (F0 m pc ls (.ref (a 18) :: rest)) := gG K hw 18 2 (ci := 1) (T := TX1) (N := 15) rfl rfl (by decide) iX1 hl rfl hd kk
theorem pD_18_2 (K : MC p s m args meth c cc own nL D tys) (hw : WD D A H0 (pdW a cA σ) H locs) {idx : Nat} {v : Int32} (hl : Cond.fieldLink own idx "PageDesk$Layout" "left" "I" ∈ TT) (hd : decode cc pc = .ok (.putfield idx, 3)) (kk : ∀ (H1 : Heap) (locs1 : List Loc), WD D A H0 (pdW a cA (upS σ 69 v)) H1 locs1 → W p l e R s m args below meth c H1 locs1 cells slots Q (F0 m (pc + 3) ls rest)) : W p l e R s m args below meth c H locs cells slots Q (F0 m pc ls (.int v :: .ref (a 18) :: rest)) := gP K hw 18 2 (ci := 1) (T := TX1) (N := 15) (ty := .int) rfl rfl (by decide) iX1 tyX1_ok nmX1 hl rfl rfl rfl rfl (Nat.le_of_ble_eq_true rfl) hd (fun H1 locs1 h => kk H1 locs1 h)
theorem gD_18_3 (K : MC p s m args meth c cc own nL D tys) (hw : WD D A H0 (pdW a cA σ) H locs) {idx : Nat} (hl : Cond.fieldLink own idx "PageDesk$Layout" "right" "I" ∈ TT) (hd : decode cc pc = .ok (.getfield idx, 3)) (kk : W p l e R s m args below meth c H locs cells slots Q (F0 m (pc + 3) ls (.int (σ.1 70) :: rest))) : W p l e R s m args below meth c H locs cells slots Q (F0 m pc ls (.ref (a 18) :: rest)) := gG K hw 18 3 (ci := 1) (T := TX1) (N := 15) rfl rfl (by decide) iX1 hl rfl hd kk
theorem pD_18_3 (K : MC p s m args meth c cc own nL D tys) (hw : WD D A H0 (pdW a cA σ) H locs) {idx : Nat} {v : Int32} (hl : Cond.fieldLink own idx "PageDesk$Layout" "right" "I" ∈ TT) (hd : decode cc pc = .ok (.putfield idx, 3)) (kk : ∀ (H1 : Heap) (locs1 : List Loc), WD D A H0 (pdW a cA (upS σ 70 v)) H1 locs1 → W p l e R s m args below meth c H1 locs1 cells slots Q (F0 m (pc + 3) ls rest)) : W p l e R s m args below meth c H locs cells slots Q (F0 m pc ls (.int v :: .ref (a 18) :: rest)) := gP K hw 18 3 (ci := 1) (T := TX1) (N := 15) (ty := .int) rfl rfl (by decide) iX1 tyX1_ok nmX1 hl rfl rfl rfl rfl (Nat.le_of_ble_eq_true rfl) hd (fun H1 locs1 h => kk H1 locs1 h)
theorem gD_18_4 (K : MC p s m args meth c cc own nL D tys) (hw : WD D A H0 (pdW a cA σ) H locs) {idx : Nat} (hl : Cond.fieldLink own idx "PageDesk$Layout" "stepAcross" "I" ∈ TT) (hd : decode cc pc = .ok (.getfield idx, 3)) (kk : W p l e R s m args below meth c H locs cells slots Q (F0 m (pc + 3) ls (.int (σ.1 71) :: rest))) : W p l e R s m args below meth c H locs cells slots Q (F0 m pc ls (.ref (a 18) :: rest)) := gG K hw 18 4 (ci := 1) (T := TX1) (N := 15) rfl rfl (by decide) iX1 hl rfl hd kk
theorem pD_18_4 (K : MC p s m args meth c cc own nL D tys) (hw : WD D A H0 (pdW a cA σ) H locs) {idx : Nat} {v : Int32} (hl : Cond.fieldLink own idx "PageDesk$Layout" "stepAcross" "I" ∈ TT) (hd : decode cc pc = .ok (.putfield idx, 3)) (kk : ∀ (H1 : Heap) (locs1 : List Loc), WD D A H0 (pdW a cA (upS σ 71 v)) H1 locs1 → W p l e R s m args below meth c H1 locs1 cells slots Q (F0 m (pc + 3) ls rest)) : W p l e R s m args below meth c H locs cells slots Q (F0 m pc ls (.int v :: .ref (a 18) :: rest)) := gP K hw 18 4 (ci := 1) (T := TX1) (N := 15) (ty := .int) rfl rfl (by decide) iX1 tyX1_ok nmX1 hl rfl rfl rfl rfl (Nat.le_of_ble_eq_true rfl) hd (fun H1 locs1 h => kk H1 locs1 h)
theorem gD_18_5 (K : MC p s m args meth c cc own nL D tys) (hw : WD D A H0 (pdW a cA σ) H locs) {idx : Nat} (hl : Cond.fieldLink own idx "PageDesk$Layout" "stepDown" "I" ∈ TT) (hd : decode cc pc = .ok (.getfield idx, 3)) (kk : W p l e R s m args below meth c H locs cells slots Q (F0 m (pc + 3) ls (.int (σ.1 72) :: rest))) : W p l e R s m args below meth c H locs cells slots Q (F0 m pc ls (.ref (a 18) :: rest)) := gG K hw 18 5 (ci := 1) (T := TX1) (N := 15) rfl rfl (by decide) iX1 hl rfl hd kk
theorem pD_18_5 (K : MC p s m args meth c cc own nL D tys) (hw : WD D A H0 (pdW a cA σ) H locs) {idx : Nat} {v : Int32} (hl : Cond.fieldLink own idx "PageDesk$Layout" "stepDown" "I" ∈ TT) (hd : decode cc pc = .ok (.putfield idx, 3)) (kk : ∀ (H1 : Heap) (locs1 : List Loc), WD D A H0 (pdW a cA (upS σ 72 v)) H1 locs1 → W p l e R s m args below meth c H1 locs1 cells slots Q (F0 m (pc + 3) ls rest)) : W p l e R s m args below meth c H locs cells slots Q (F0 m pc ls (.int v :: .ref (a 18) :: rest)) := gP K hw 18 5 (ci := 1) (T := TX1) (N := 15) (ty := .int) rfl rfl (by decide) iX1 tyX1_ok nmX1 hl rfl rfl rfl rfl (Nat.le_of_ble_eq_true rfl) hd (fun H1 locs1 h => kk H1 locs1 h)
theorem gD_18_6 (K : MC p s m args meth c cc own nL D tys) (hw : WD D A H0 (pdW a cA σ) H locs) {idx : Nat} (hl : Cond.fieldLink own idx "PageDesk$Layout" "x" "I" ∈ TT) (hd : decode cc pc = .ok (.getfield idx, 3)) (kk : W p l e R s m args below meth c H locs cells slots Q (F0 m (pc + 3) ls (.int (σ.1 73) :: rest))) : W p l e R s m args below meth c H locs cells slots Q (F0 m pc ls (.ref (a 18) :: rest)) := gG K hw 18 6 (ci := 1) (T := TX1) (N := 15) rfl rfl (by decide) iX1 hl rfl hd kk
theorem pD_18_6 (K : MC p s m args meth c cc own nL D tys) (hw : WD D A H0 (pdW a cA σ) H locs) {idx : Nat} {v : Int32} (hl : Cond.fieldLink own idx "PageDesk$Layout" "x" "I" ∈ TT) (hd : decode cc pc = .ok (.putfield idx, 3)) (kk : ∀ (H1 : Heap) (locs1 : List Loc), WD D A H0 (pdW a cA (upS σ 73 v)) H1 locs1 → W p l e R s m args below meth c H1 locs1 cells slots Q (F0 m (pc + 3) ls rest)) : W p l e R s m args below meth c H locs cells slots Q (F0 m pc ls (.int v :: .ref (a 18) :: rest)) := gP K hw 18 6 (ci := 1) (T := TX1) (N := 15) (ty := .int) rfl rfl (by decide) iX1 tyX1_ok nmX1 hl rfl rfl rfl rfl (Nat.le_of_ble_eq_true rfl) hd (fun H1 locs1 h => kk H1 locs1 h)
theorem gD_18_7 (K : MC p s m args meth c cc own nL D tys) (hw : WD D A H0 (pdW a cA σ) H locs) {idx : Nat} (hl : Cond.fieldLink own idx "PageDesk$Layout" "y" "I" ∈ TT) (hd : decode cc pc = .ok (.getfield idx, 3)) (kk : W p l e R s m args below meth c H locs cells slots Q (F0 m (pc + 3) ls (.int (σ.1 74) :: rest))) : W p l e R s m args below meth c H locs cells slots Q (F0 m pc ls (.ref (a 18) :: rest)) := gG K hw 18 7 (ci := 1) (T := TX1) (N := 15) rfl rfl (by decide) iX1 hl rfl hd kk
theorem pD_18_7 (K : MC p s m args meth c cc own nL D tys) (hw : WD D A H0 (pdW a cA σ) H locs) {idx : Nat} {v : Int32} (hl : Cond.fieldLink own idx "PageDesk$Layout" "y" "I" ∈ TT) (hd : decode cc pc = .ok (.putfield idx, 3)) (kk : ∀ (H1 : Heap) (locs1 : List Loc), WD D A H0 (pdW a cA (upS σ 74 v)) H1 locs1 → W p l e R s m args below meth c H1 locs1 cells slots Q (F0 m (pc + 3) ls rest)) : W p l e R s m args below meth c H locs cells slots Q (F0 m pc ls (.int v :: .ref (a 18) :: rest)) := gP K hw 18 7 (ci := 1) (T := TX1) (N := 15) (ty := .int) rfl rfl (by decide) iX1 tyX1_ok nmX1 hl rfl rfl rfl rfl (Nat.le_of_ble_eq_true rfl) hd (fun H1 locs1 h => kk H1 locs1 h)
theorem gD_18_8 (K : MC p s m args meth c cc own nL D tys) (hw : WD D A H0 (pdW a cA σ) H locs) {idx : Nat} (hl : Cond.fieldLink own idx "PageDesk$Layout" "wrap" "Z" ∈ TT) (hd : decode cc pc = .ok (.getfield idx, 3)) (kk : W p l e R s m args below meth c H locs cells slots Q (F0 m (pc + 3) ls (.int (σ.1 75) :: rest))) : W p l e R s m args below meth c H locs cells slots Q (F0 m pc ls (.ref (a 18) :: rest)) := gG K hw 18 8 (ci := 1) (T := TX1) (N := 15) rfl rfl (by decide) iX1 hl rfl hd kk
theorem pD_18_8 (K : MC p s m args meth c cc own nL D tys) (hw : WD D A H0 (pdW a cA σ) H locs) {idx : Nat} {v : Int32} (hz : narrow .boolean (.int v) = .int v) (hf : fits .boolean (.int v) = true) (hl : Cond.fieldLink own idx "PageDesk$Layout" "wrap" "Z" ∈ TT) (hd : decode cc pc = .ok (.putfield idx, 3)) (kk : ∀ (H1 : Heap) (locs1 : List Loc), WD D A H0 (pdW a cA (upS σ 75 v)) H1 locs1 → W p l e R s m args below meth c H1 locs1 cells slots Q (F0 m (pc + 3) ls rest)) : W p l e R s m args below meth c H locs cells slots Q (F0 m pc ls (.int v :: .ref (a 18) :: rest)) := gP K hw 18 8 (ci := 1) (T := TX1) (N := 15) (ty := .boolean) rfl rfl (by decide) iX1 tyX1_ok nmX1 hl rfl rfl hz hf (Nat.le_of_ble_eq_true rfl) hd (fun H1 locs1 h => kk H1 locs1 h)
theorem gD_18_9 (K : MC p s m args meth c cc own nL D tys) (hw : WD D A H0 (pdW a cA σ) H locs) {idx : Nat} (hl : Cond.fieldLink own idx "PageDesk$Layout" "skip" "Z" ∈ TT) (hd : decode cc pc = .ok (.getfield idx, 3)) (kk : W p l e R s m args below meth c H locs cells slots Q (F0 m (pc + 3) ls (.int (σ.1 76) :: rest))) : W p l e R s m args below meth c H locs cells slots Q (F0 m pc ls (.ref (a 18) :: rest)) := gG K hw 18 9 (ci := 1) (T := TX1) (N := 15) rfl rfl (by decide) iX1 hl rfl hd kk
theorem pD_18_9 (K : MC p s m args meth c cc own nL D tys) (hw : WD D A H0 (pdW a cA σ) H locs) {idx : Nat} {v : Int32} (hz : narrow .boolean (.int v) = .int v) (hf : fits .boolean (.int v) = true) (hl : Cond.fieldLink own idx "PageDesk$Layout" "skip" "Z" ∈ TT) (hd : decode cc pc = .ok (.putfield idx, 3)) (kk : ∀ (H1 : Heap) (locs1 : List Loc), WD D A H0 (pdW a cA (upS σ 76 v)) H1 locs1 → W p l e R s m args below meth c H1 locs1 cells slots Q (F0 m (pc + 3) ls rest)) : W p l e R s m args below meth c H locs cells slots Q (F0 m pc ls (.int v :: .ref (a 18) :: rest)) := gP K hw 18 9 (ci := 1) (T := TX1) (N := 15) (ty := .boolean) rfl rfl (by decide) iX1 tyX1_ok nmX1 hl rfl rfl hz hf (Nat.le_of_ble_eq_true rfl) hd (fun H1 locs1 h => kk H1 locs1 h)
theorem gD_18_10 (K : MC p s m args meth c cc own nL D tys) (hw : WD D A H0 (pdW a cA σ) H locs) {idx : Nat} (hl : Cond.fieldLink own idx "PageDesk$Layout" "lineEnd" "I" ∈ TT) (hd : decode cc pc = .ok (.getfield idx, 3)) (kk : W p l e R s m args below meth c H locs cells slots Q (F0 m (pc + 3) ls (.int (σ.1 77) :: rest))) : W p l e R s m args below meth c H locs cells slots Q (F0 m pc ls (.ref (a 18) :: rest)) := gG K hw 18 10 (ci := 1) (T := TX1) (N := 15) rfl rfl (by decide) iX1 hl rfl hd kk
theorem pD_18_10 (K : MC p s m args meth c cc own nL D tys) (hw : WD D A H0 (pdW a cA σ) H locs) {idx : Nat} {v : Int32} (hl : Cond.fieldLink own idx "PageDesk$Layout" "lineEnd" "I" ∈ TT) (hd : decode cc pc = .ok (.putfield idx, 3)) (kk : ∀ (H1 : Heap) (locs1 : List Loc), WD D A H0 (pdW a cA (upS σ 77 v)) H1 locs1 → W p l e R s m args below meth c H1 locs1 cells slots Q (F0 m (pc + 3) ls rest)) : W p l e R s m args below meth c H locs cells slots Q (F0 m pc ls (.int v :: .ref (a 18) :: rest)) := gP K hw 18 10 (ci := 1) (T := TX1) (N := 15) (ty := .int) rfl rfl (by decide) iX1 tyX1_ok nmX1 hl rfl rfl rfl rfl (Nat.le_of_ble_eq_true rfl) hd (fun H1 locs1 h => kk H1 locs1 h)
theorem gD_18_11 (K : MC p s m args meth c cc own nL D tys) (hw : WD D A H0 (pdW a cA σ) H locs) {idx : Nat} (hl : Cond.fieldLink own idx "PageDesk$Layout" "font" "I" ∈ TT) (hd : decode cc pc = .ok (.getfield idx, 3)) (kk : W p l e R s m args below meth c H locs cells slots Q (F0 m (pc + 3) ls (.int (σ.1 78) :: rest))) : W p l e R s m args below meth c H locs cells slots Q (F0 m pc ls (.ref (a 18) :: rest)) := gG K hw 18 11 (ci := 1) (T := TX1) (N := 15) rfl rfl (by decide) iX1 hl rfl hd kk
theorem pD_18_11 (K : MC p s m args meth c cc own nL D tys) (hw : WD D A H0 (pdW a cA σ) H locs) {idx : Nat} {v : Int32} (hl : Cond.fieldLink own idx "PageDesk$Layout" "font" "I" ∈ TT) (hd : decode cc pc = .ok (.putfield idx, 3)) (kk : ∀ (H1 : Heap) (locs1 : List Loc), WD D A H0 (pdW a cA (upS σ 78 v)) H1 locs1 → W p l e R s m args below meth c H1 locs1 cells slots Q (F0 m (pc + 3) ls rest)) : W p l e R s m args below meth c H locs cells slots Q (F0 m pc ls (.int v :: .ref (a 18) :: rest)) := gP K hw 18 11 (ci := 1) (T := TX1) (N := 15) (ty := .int) rfl rfl (by decide) iX1 tyX1_ok nmX1 hl rfl rfl rfl rfl (Nat.le_of_ble_eq_true rfl) hd (fun H1 locs1 h => kk H1 locs1 h)
theorem gD_18_12 (K : MC p s m args meth c cc own nL D tys) (hw : WD D A H0 (pdW a cA σ) H locs) {idx : Nat} (hl : Cond.fieldLink own idx "PageDesk$Layout" "depth" "I" ∈ TT) (hd : decode cc pc = .ok (.getfield idx, 3)) (kk : W p l e R s m args below meth c H locs cells slots Q (F0 m (pc + 3) ls (.int (σ.1 79) :: rest))) : W p l e R s m args below meth c H locs cells slots Q (F0 m pc ls (.ref (a 18) :: rest)) := gG K hw 18 12 (ci := 1) (T := TX1) (N := 15) rfl rfl (by decide) iX1 hl rfl hd kk
theorem pD_18_12 (K : MC p s m args meth c cc own nL D tys) (hw : WD D A H0 (pdW a cA σ) H locs) {idx : Nat} {v : Int32} (hl : Cond.fieldLink own idx "PageDesk$Layout" "depth" "I" ∈ TT) (hd : decode cc pc = .ok (.putfield idx, 3)) (kk : ∀ (H1 : Heap) (locs1 : List Loc), WD D A H0 (pdW a cA (upS σ 79 v)) H1 locs1 → W p l e R s m args below meth c H1 locs1 cells slots Q (F0 m (pc + 3) ls rest)) : W p l e R s m args below meth c H locs cells slots Q (F0 m pc ls (.int v :: .ref (a 18) :: rest)) := gP K hw 18 12 (ci := 1) (T := TX1) (N := 15) (ty := .int) rfl rfl (by decide) iX1 tyX1_ok nmX1 hl rfl rfl rfl rfl (Nat.le_of_ble_eq_true rfl) hd (fun H1 locs1 h => kk H1 locs1 h)
theorem gD_18_13 (K : MC p s m args meth c cc own nL D tys) (hw : WD D A H0 (pdW a cA σ) H locs) {idx : Nat} (hl : Cond.fieldLink own idx "PageDesk$Layout" "stackX" "[I" ∈ TT) (hd : decode cc pc = .ok (.getfield idx, 3)) (kk : W p l e R s m args below meth c H locs cells slots Q (F0 m (pc + 3) ls (.ref (a 23) :: rest))) : W p l e R s m args below meth c H locs cells slots Q (F0 m pc ls (.ref (a 18) :: rest)) := gG K hw 18 13 (ci := 1) (T := TX1) (N := 15) rfl rfl (by decide) iX1 hl rfl hd kk
theorem gD_18_14 (K : MC p s m args meth c cc own nL D tys) (hw : WD D A H0 (pdW a cA σ) H locs) {idx : Nat} (hl : Cond.fieldLink own idx "PageDesk$Layout" "stackY" "[I" ∈ TT) (hd : decode cc pc = .ok (.getfield idx, 3)) (kk : W p l e R s m args below meth c H locs cells slots Q (F0 m (pc + 3) ls (.ref (a 24) :: rest))) : W p l e R s m args below meth c H locs cells slots Q (F0 m pc ls (.ref (a 18) :: rest)) := gG K hw 18 14 (ci := 1) (T := TX1) (N := 15) rfl rfl (by decide) iX1 hl rfl hd kk
theorem lD_14q (K : MC p s m args meth c cc own nL D (pdT cA)) (hw : WD D A H0 (pdW a cA σ) H locs) {i : Int32} {q : Nat} (hin : vp_in i 3) (hq : 16 + i.toNatClampNeg = q) (hd : decode cc pc = .ok (.aaload, 1)) (kk : W p l e R s m args below meth c H locs cells slots Q (F0 m (pc + 1) ls (.ref (a q) :: rest))) : W p l e R s m args below meth c H locs cells slots Q (F0 m pc ls (.int i :: .ref (a 14) :: rest)) := by
  subst hq
  exact lD_14 K hw hin hd kk
theorem cpD_8_19 (K : MC p s m args meth c cc own nL D (pdT cA)) (hw : WD D A H0 (pdW a cA σ) H locs) {idx : Nat} (hl : Cond.methodLink own idx arraycopyName ∈ TT) (hz : ls.size = nL) (hfr : 1 ≤ R.frames) (hlo : (rest.map fun v => v.category).sum + (nativeFrameWords "java/lang/System" "arraycopy" 5 + 11) ≤ R.locals) (hd : decode cc pc = .ok (.invokestatic idx, 3)) (kk : ∀ (H1 : Heap) (locs1 : List Loc), WD D A H0 (pdW a cA (upR σ 6 (va_cpy (σ.2.1 1) (σ.2.1 6) 0 0 20))) H1 locs1 → W p l e R s m args below meth c H1 locs1 cells slots Q (F0 m (pc + 3) ls rest)) : W p l e R s m args below meth c H locs cells slots Q (F0 m pc ls (.int 20 :: .int 0 :: .ref (a 19) :: .int 0 :: .ref (a 8) :: rest)) :=
  va_copyi (ty := .int) K.1 K.2.1 (K.2.2.2.2.2.1.trans hz.symm) K.2.2.2.1 (K.2.2.1 _ hl) (K.2.2.1 _ kV_System_arraycopy) (K.2.2.1 _ kS_System_arraycopy) (K.2.2.1 _ ki_J10) K.2.2.2.2.1 hw.1 hw.2.1 hw.2.2.1 8 19 1 9 rfl rfl rfl rfl rfl (by decide) (by decide) (by decide) (by decide) (by decide) (fun _ _ => rfl) hfr hlo hd (fun H1 locs1 hP hD hS => kk H1 locs1 ⟨hP, hD, hS, hw.2.2.2⟩)
theorem cpD_8_21 (K : MC p s m args meth c cc own nL D (pdT cA)) (hw : WD D A H0 (pdW a cA σ) H locs) {idx : Nat} (hl : Cond.methodLink own idx arraycopyName ∈ TT) (hz : ls.size = nL) (hfr : 1 ≤ R.frames) (hlo : (rest.map fun v => v.category).sum + (nativeFrameWords "java/lang/System" "arraycopy" 5 + 11) ≤ R.locals) (hd : decode cc pc = .ok (.invokestatic idx, 3)) (kk : ∀ (H1 : Heap) (locs1 : List Loc), WD D A H0 (pdW a cA (upR σ 8 (va_cpy (σ.2.1 1) (σ.2.1 8) 0 0 20))) H1 locs1 → W p l e R s m args below meth c H1 locs1 cells slots Q (F0 m (pc + 3) ls rest)) : W p l e R s m args below meth c H locs cells slots Q (F0 m pc ls (.int 20 :: .int 0 :: .ref (a 21) :: .int 0 :: .ref (a 8) :: rest)) :=
  va_copyi (ty := .int) K.1 K.2.1 (K.2.2.2.2.2.1.trans hz.symm) K.2.2.2.1 (K.2.2.1 _ hl) (K.2.2.1 _ kV_System_arraycopy) (K.2.2.1 _ kS_System_arraycopy) (K.2.2.1 _ ki_J10) K.2.2.2.2.1 hw.1 hw.2.1 hw.2.2.1 8 21 1 11 rfl rfl rfl rfl rfl (by decide) (by decide) (by decide) (by decide) (by decide) (fun _ _ => rfl) hfr hlo hd (fun H1 locs1 hP hD hS => kk H1 locs1 ⟨hP, hD, hS, hw.2.2.2⟩)
theorem cpD_8_23 (K : MC p s m args meth c cc own nL D (pdT cA)) (hw : WD D A H0 (pdW a cA σ) H locs) {idx : Nat} (hl : Cond.methodLink own idx arraycopyName ∈ TT) (hz : ls.size = nL) (hfr : 1 ≤ R.frames) (hlo : (rest.map fun v => v.category).sum + (nativeFrameWords "java/lang/System" "arraycopy" 5 + 11) ≤ R.locals) (hd : decode cc pc = .ok (.invokestatic idx, 3)) (kk : ∀ (H1 : Heap) (locs1 : List Loc), WD D A H0 (pdW a cA (upR σ 10 (va_cpy (σ.2.1 1) (σ.2.1 10) 0 0 20))) H1 locs1 → W p l e R s m args below meth c H1 locs1 cells slots Q (F0 m (pc + 3) ls rest)) : W p l e R s m args below meth c H locs cells slots Q (F0 m pc ls (.int 20 :: .int 0 :: .ref (a 23) :: .int 0 :: .ref (a 8) :: rest)) :=
  va_copyi (ty := .int) K.1 K.2.1 (K.2.2.2.2.2.1.trans hz.symm) K.2.2.2.1 (K.2.2.1 _ hl) (K.2.2.1 _ kV_System_arraycopy) (K.2.2.1 _ kS_System_arraycopy) (K.2.2.1 _ ki_J10) K.2.2.2.2.1 hw.1 hw.2.1 hw.2.2.1 8 23 1 13 rfl rfl rfl rfl rfl (by decide) (by decide) (by decide) (by decide) (by decide) (fun _ _ => rfl) hfr hlo hd (fun H1 locs1 hP hD hS => kk H1 locs1 ⟨hP, hD, hS, hw.2.2.2⟩)
theorem cpD_9_20 (K : MC p s m args meth c cc own nL D (pdT cA)) (hw : WD D A H0 (pdW a cA σ) H locs) {idx : Nat} (hl : Cond.methodLink own idx arraycopyName ∈ TT) (hz : ls.size = nL) (hfr : 1 ≤ R.frames) (hlo : (rest.map fun v => v.category).sum + (nativeFrameWords "java/lang/System" "arraycopy" 5 + 11) ≤ R.locals) (hd : decode cc pc = .ok (.invokestatic idx, 3)) (kk : ∀ (H1 : Heap) (locs1 : List Loc), WD D A H0 (pdW a cA (upR σ 7 (va_cpy (σ.2.1 2) (σ.2.1 7) 0 0 20))) H1 locs1 → W p l e R s m args below meth c H1 locs1 cells slots Q (F0 m (pc + 3) ls rest)) : W p l e R s m args below meth c H locs cells slots Q (F0 m pc ls (.int 20 :: .int 0 :: .ref (a 20) :: .int 0 :: .ref (a 9) :: rest)) :=
  va_copyi (ty := .int) K.1 K.2.1 (K.2.2.2.2.2.1.trans hz.symm) K.2.2.2.1 (K.2.2.1 _ hl) (K.2.2.1 _ kV_System_arraycopy) (K.2.2.1 _ kS_System_arraycopy) (K.2.2.1 _ ki_J10) K.2.2.2.2.1 hw.1 hw.2.1 hw.2.2.1 9 20 2 10 rfl rfl rfl rfl rfl (by decide) (by decide) (by decide) (by decide) (by decide) (fun _ _ => rfl) hfr hlo hd (fun H1 locs1 hP hD hS => kk H1 locs1 ⟨hP, hD, hS, hw.2.2.2⟩)
theorem cpD_9_22 (K : MC p s m args meth c cc own nL D (pdT cA)) (hw : WD D A H0 (pdW a cA σ) H locs) {idx : Nat} (hl : Cond.methodLink own idx arraycopyName ∈ TT) (hz : ls.size = nL) (hfr : 1 ≤ R.frames) (hlo : (rest.map fun v => v.category).sum + (nativeFrameWords "java/lang/System" "arraycopy" 5 + 11) ≤ R.locals) (hd : decode cc pc = .ok (.invokestatic idx, 3)) (kk : ∀ (H1 : Heap) (locs1 : List Loc), WD D A H0 (pdW a cA (upR σ 9 (va_cpy (σ.2.1 2) (σ.2.1 9) 0 0 20))) H1 locs1 → W p l e R s m args below meth c H1 locs1 cells slots Q (F0 m (pc + 3) ls rest)) : W p l e R s m args below meth c H locs cells slots Q (F0 m pc ls (.int 20 :: .int 0 :: .ref (a 22) :: .int 0 :: .ref (a 9) :: rest)) :=
  va_copyi (ty := .int) K.1 K.2.1 (K.2.2.2.2.2.1.trans hz.symm) K.2.2.2.1 (K.2.2.1 _ hl) (K.2.2.1 _ kV_System_arraycopy) (K.2.2.1 _ kS_System_arraycopy) (K.2.2.1 _ ki_J10) K.2.2.2.2.1 hw.1 hw.2.1 hw.2.2.1 9 22 2 12 rfl rfl rfl rfl rfl (by decide) (by decide) (by decide) (by decide) (by decide) (fun _ _ => rfl) hfr hlo hd (fun H1 locs1 hP hD hS => kk H1 locs1 ⟨hP, hD, hS, hw.2.2.2⟩)
theorem cpD_9_24 (K : MC p s m args meth c cc own nL D (pdT cA)) (hw : WD D A H0 (pdW a cA σ) H locs) {idx : Nat} (hl : Cond.methodLink own idx arraycopyName ∈ TT) (hz : ls.size = nL) (hfr : 1 ≤ R.frames) (hlo : (rest.map fun v => v.category).sum + (nativeFrameWords "java/lang/System" "arraycopy" 5 + 11) ≤ R.locals) (hd : decode cc pc = .ok (.invokestatic idx, 3)) (kk : ∀ (H1 : Heap) (locs1 : List Loc), WD D A H0 (pdW a cA (upR σ 11 (va_cpy (σ.2.1 2) (σ.2.1 11) 0 0 20))) H1 locs1 → W p l e R s m args below meth c H1 locs1 cells slots Q (F0 m (pc + 3) ls rest)) : W p l e R s m args below meth c H locs cells slots Q (F0 m pc ls (.int 20 :: .int 0 :: .ref (a 24) :: .int 0 :: .ref (a 9) :: rest)) :=
  va_copyi (ty := .int) K.1 K.2.1 (K.2.2.2.2.2.1.trans hz.symm) K.2.2.2.1 (K.2.2.1 _ hl) (K.2.2.1 _ kV_System_arraycopy) (K.2.2.1 _ kS_System_arraycopy) (K.2.2.1 _ ki_J10) K.2.2.2.2.1 hw.1 hw.2.1 hw.2.2.1 9 24 2 14 rfl rfl rfl rfl rfl (by decide) (by decide) (by decide) (by decide) (by decide) (fun _ _ => rfl) hfr hlo hd (fun H1 locs1 hP hD hS => kk H1 locs1 ⟨hP, hD, hS, hw.2.2.2⟩)
theorem cpD_19_8 (K : MC p s m args meth c cc own nL D (pdT cA)) (hw : WD D A H0 (pdW a cA σ) H locs) {idx : Nat} (hl : Cond.methodLink own idx arraycopyName ∈ TT) (hz : ls.size = nL) (hfr : 1 ≤ R.frames) (hlo : (rest.map fun v => v.category).sum + (nativeFrameWords "java/lang/System" "arraycopy" 5 + 11) ≤ R.locals) (hd : decode cc pc = .ok (.invokestatic idx, 3)) (kk : ∀ (H1 : Heap) (locs1 : List Loc), WD D A H0 (pdW a cA (upR σ 1 (va_cpy (σ.2.1 6) (σ.2.1 1) 0 0 20))) H1 locs1 → W p l e R s m args below meth c H1 locs1 cells slots Q (F0 m (pc + 3) ls rest)) : W p l e R s m args below meth c H locs cells slots Q (F0 m pc ls (.int 20 :: .int 0 :: .ref (a 8) :: .int 0 :: .ref (a 19) :: rest)) :=
  va_copyi (ty := .int) K.1 K.2.1 (K.2.2.2.2.2.1.trans hz.symm) K.2.2.2.1 (K.2.2.1 _ hl) (K.2.2.1 _ kV_System_arraycopy) (K.2.2.1 _ kS_System_arraycopy) (K.2.2.1 _ ki_J10) K.2.2.2.2.1 hw.1 hw.2.1 hw.2.2.1 19 8 9 1 rfl rfl rfl rfl rfl (by decide) (by decide) (by decide) (by decide) (by decide) (fun _ _ => rfl) hfr hlo hd (fun H1 locs1 hP hD hS => kk H1 locs1 ⟨hP, hD, hS, hw.2.2.2⟩)
theorem cpD_21_8 (K : MC p s m args meth c cc own nL D (pdT cA)) (hw : WD D A H0 (pdW a cA σ) H locs) {idx : Nat} (hl : Cond.methodLink own idx arraycopyName ∈ TT) (hz : ls.size = nL) (hfr : 1 ≤ R.frames) (hlo : (rest.map fun v => v.category).sum + (nativeFrameWords "java/lang/System" "arraycopy" 5 + 11) ≤ R.locals) (hd : decode cc pc = .ok (.invokestatic idx, 3)) (kk : ∀ (H1 : Heap) (locs1 : List Loc), WD D A H0 (pdW a cA (upR σ 1 (va_cpy (σ.2.1 8) (σ.2.1 1) 0 0 20))) H1 locs1 → W p l e R s m args below meth c H1 locs1 cells slots Q (F0 m (pc + 3) ls rest)) : W p l e R s m args below meth c H locs cells slots Q (F0 m pc ls (.int 20 :: .int 0 :: .ref (a 8) :: .int 0 :: .ref (a 21) :: rest)) :=
  va_copyi (ty := .int) K.1 K.2.1 (K.2.2.2.2.2.1.trans hz.symm) K.2.2.2.1 (K.2.2.1 _ hl) (K.2.2.1 _ kV_System_arraycopy) (K.2.2.1 _ kS_System_arraycopy) (K.2.2.1 _ ki_J10) K.2.2.2.2.1 hw.1 hw.2.1 hw.2.2.1 21 8 11 1 rfl rfl rfl rfl rfl (by decide) (by decide) (by decide) (by decide) (by decide) (fun _ _ => rfl) hfr hlo hd (fun H1 locs1 hP hD hS => kk H1 locs1 ⟨hP, hD, hS, hw.2.2.2⟩)
theorem cpD_23_8 (K : MC p s m args meth c cc own nL D (pdT cA)) (hw : WD D A H0 (pdW a cA σ) H locs) {idx : Nat} (hl : Cond.methodLink own idx arraycopyName ∈ TT) (hz : ls.size = nL) (hfr : 1 ≤ R.frames) (hlo : (rest.map fun v => v.category).sum + (nativeFrameWords "java/lang/System" "arraycopy" 5 + 11) ≤ R.locals) (hd : decode cc pc = .ok (.invokestatic idx, 3)) (kk : ∀ (H1 : Heap) (locs1 : List Loc), WD D A H0 (pdW a cA (upR σ 1 (va_cpy (σ.2.1 10) (σ.2.1 1) 0 0 20))) H1 locs1 → W p l e R s m args below meth c H1 locs1 cells slots Q (F0 m (pc + 3) ls rest)) : W p l e R s m args below meth c H locs cells slots Q (F0 m pc ls (.int 20 :: .int 0 :: .ref (a 8) :: .int 0 :: .ref (a 23) :: rest)) :=
  va_copyi (ty := .int) K.1 K.2.1 (K.2.2.2.2.2.1.trans hz.symm) K.2.2.2.1 (K.2.2.1 _ hl) (K.2.2.1 _ kV_System_arraycopy) (K.2.2.1 _ kS_System_arraycopy) (K.2.2.1 _ ki_J10) K.2.2.2.2.1 hw.1 hw.2.1 hw.2.2.1 23 8 13 1 rfl rfl rfl rfl rfl (by decide) (by decide) (by decide) (by decide) (by decide) (fun _ _ => rfl) hfr hlo hd (fun H1 locs1 hP hD hS => kk H1 locs1 ⟨hP, hD, hS, hw.2.2.2⟩)
theorem cpD_20_9 (K : MC p s m args meth c cc own nL D (pdT cA)) (hw : WD D A H0 (pdW a cA σ) H locs) {idx : Nat} (hl : Cond.methodLink own idx arraycopyName ∈ TT) (hz : ls.size = nL) (hfr : 1 ≤ R.frames) (hlo : (rest.map fun v => v.category).sum + (nativeFrameWords "java/lang/System" "arraycopy" 5 + 11) ≤ R.locals) (hd : decode cc pc = .ok (.invokestatic idx, 3)) (kk : ∀ (H1 : Heap) (locs1 : List Loc), WD D A H0 (pdW a cA (upR σ 2 (va_cpy (σ.2.1 7) (σ.2.1 2) 0 0 20))) H1 locs1 → W p l e R s m args below meth c H1 locs1 cells slots Q (F0 m (pc + 3) ls rest)) : W p l e R s m args below meth c H locs cells slots Q (F0 m pc ls (.int 20 :: .int 0 :: .ref (a 9) :: .int 0 :: .ref (a 20) :: rest)) :=
  va_copyi (ty := .int) K.1 K.2.1 (K.2.2.2.2.2.1.trans hz.symm) K.2.2.2.1 (K.2.2.1 _ hl) (K.2.2.1 _ kV_System_arraycopy) (K.2.2.1 _ kS_System_arraycopy) (K.2.2.1 _ ki_J10) K.2.2.2.2.1 hw.1 hw.2.1 hw.2.2.1 20 9 10 2 rfl rfl rfl rfl rfl (by decide) (by decide) (by decide) (by decide) (by decide) (fun _ _ => rfl) hfr hlo hd (fun H1 locs1 hP hD hS => kk H1 locs1 ⟨hP, hD, hS, hw.2.2.2⟩)
theorem cpD_22_9 (K : MC p s m args meth c cc own nL D (pdT cA)) (hw : WD D A H0 (pdW a cA σ) H locs) {idx : Nat} (hl : Cond.methodLink own idx arraycopyName ∈ TT) (hz : ls.size = nL) (hfr : 1 ≤ R.frames) (hlo : (rest.map fun v => v.category).sum + (nativeFrameWords "java/lang/System" "arraycopy" 5 + 11) ≤ R.locals) (hd : decode cc pc = .ok (.invokestatic idx, 3)) (kk : ∀ (H1 : Heap) (locs1 : List Loc), WD D A H0 (pdW a cA (upR σ 2 (va_cpy (σ.2.1 9) (σ.2.1 2) 0 0 20))) H1 locs1 → W p l e R s m args below meth c H1 locs1 cells slots Q (F0 m (pc + 3) ls rest)) : W p l e R s m args below meth c H locs cells slots Q (F0 m pc ls (.int 20 :: .int 0 :: .ref (a 9) :: .int 0 :: .ref (a 22) :: rest)) :=
  va_copyi (ty := .int) K.1 K.2.1 (K.2.2.2.2.2.1.trans hz.symm) K.2.2.2.1 (K.2.2.1 _ hl) (K.2.2.1 _ kV_System_arraycopy) (K.2.2.1 _ kS_System_arraycopy) (K.2.2.1 _ ki_J10) K.2.2.2.2.1 hw.1 hw.2.1 hw.2.2.1 22 9 12 2 rfl rfl rfl rfl rfl (by decide) (by decide) (by decide) (by decide) (by decide) (fun _ _ => rfl) hfr hlo hd (fun H1 locs1 hP hD hS => kk H1 locs1 ⟨hP, hD, hS, hw.2.2.2⟩)
theorem cpD_24_9 (K : MC p s m args meth c cc own nL D (pdT cA)) (hw : WD D A H0 (pdW a cA σ) H locs) {idx : Nat} (hl : Cond.methodLink own idx arraycopyName ∈ TT) (hz : ls.size = nL) (hfr : 1 ≤ R.frames) (hlo : (rest.map fun v => v.category).sum + (nativeFrameWords "java/lang/System" "arraycopy" 5 + 11) ≤ R.locals) (hd : decode cc pc = .ok (.invokestatic idx, 3)) (kk : ∀ (H1 : Heap) (locs1 : List Loc), WD D A H0 (pdW a cA (upR σ 2 (va_cpy (σ.2.1 11) (σ.2.1 2) 0 0 20))) H1 locs1 → W p l e R s m args below meth c H1 locs1 cells slots Q (F0 m (pc + 3) ls rest)) : W p l e R s m args below meth c H locs cells slots Q (F0 m pc ls (.int 20 :: .int 0 :: .ref (a 9) :: .int 0 :: .ref (a 24) :: rest)) :=
  va_copyi (ty := .int) K.1 K.2.1 (K.2.2.2.2.2.1.trans hz.symm) K.2.2.2.1 (K.2.2.1 _ hl) (K.2.2.1 _ kV_System_arraycopy) (K.2.2.1 _ kS_System_arraycopy) (K.2.2.1 _ ki_J10) K.2.2.2.2.1 hw.1 hw.2.1 hw.2.2.1 24 9 14 2 rfl rfl rfl rfl rfl (by decide) (by decide) (by decide) (by decide) (by decide) (fun _ _ => rfl) hfr hlo hd (fun H1 locs1 hP hD hS => kk H1 locs1 ⟨hP, hD, hS, hw.2.2.2⟩)
end KitR
theorem two3 {x : Int32} (h0 : ¬ x < 0) (h3 : x < 3) (n0 : ¬ x = 0) (n1 : ¬ x = 1) : x = 2 := by
  rw [Int32.lt_iff_toInt_lt] at h0 h3
  have e0 : (0 : Int32).toInt = 0 := rfl
  have e3 : (3 : Int32).toInt = 3 := rfl
  have m0 : x.toInt ≠ 0 := fun q => n0 (Int32.toInt_inj.mp (by rw [q]; rfl))
  have m1 : x.toInt ≠ 1 := fun q => n1 (Int32.toInt_inj.mp (by rw [q]; rfl))
  exact Int32.toInt_inj.mp (by rw [show x.toInt = 2 by omega]; rfl)
theorem lt3 {x : Int32} (h0 : ¬ x < 0) (h3 : x < 3) : 0 ≤ x.toInt ∧ x.toInt ≤ 2 := by
  rw [Int32.lt_iff_toInt_lt] at h0 h3
  have e0 : (0 : Int32).toInt = 0 := rfl
  have e3 : (3 : Int32).toInt = 3 := rfl
  omega
theorem and255i (z : Int32) : 0 ≤ (z &&& 255).toInt ∧ (z &&& 255).toInt ≤ 255 := by
  obtain ⟨j, hj, e⟩ := pk_andE z (m := 255) 8 (by decide)
  rw [e, nI_toInt (by omega)]
  omega
theorem mulcD {c x : Int32} (cv : Int) (hc : c.toInt = cv) (h1 : -2147483648 ≤ cv * x.toInt) (h2 : cv * x.toInt ≤ 2147483647) : (c * x).toInt = cv * x.toInt := by
  rw [i32mul (by rw [hc]; exact h1) (by rw [hc]; exact h2), hc]
theorem fdEntry {x : Int32} (h1 : ¬ x < 1) (h2 : x ≤ 8) : -1 ≤ (x - 1).toInt ∧ (x - 1).toInt ≤ 7 ∧ (x - 1).toInt + 1 < ((9 : Nat) : Int) := by
  rw [Int32.lt_iff_toInt_lt] at h1
  rw [Int32.le_iff_toInt_le] at h2
  have e1 : (1 : Int32).toInt = 1 := rfl
  have e8 : (8 : Int32).toInt = 8 := rfl
  rw [i32sub (by omega) (by omega)]
  omega
theorem stepDnD {y z : Int32} {n : Nat} (hv : -1 ≤ y.toInt ∧ y.toInt ≤ 7 ∧ y.toInt + 1 < ((n + 1 : Nat) : Int)) (hc : ¬ y < 0) (he : z = y + (-1)) : -1 ≤ z.toInt ∧ z.toInt ≤ 7 ∧ z.toInt + 1 < (n : Int) := by
  rw [Int32.lt_iff_toInt_lt] at hc
  have e0 : (0 : Int32).toInt = 0 := rfl
  have h1 : (-1 : Int32).toInt = -1 := rfl
  have e : z.toInt = y.toInt - 1 := by rw [he, i32add (by omega) (by omega), h1]; omega
  omega
theorem ebEntry {k : Int32} (h1 : ¬ k < 0) (h2 : k < 512) : 0 ≤ k.toInt ∧ k.toInt ≤ 511 ∧ (8 * k).toInt = 8 * k.toInt ∧ (8 * k + 8).toInt = 8 * k.toInt + 8 := by
  rw [Int32.lt_iff_toInt_lt] at h1 h2
  have e0 : (0 : Int32).toInt = 0 := rfl
  have e5 : (512 : Int32).toInt = 512 := rfl
  have e8 : (8 : Int32).toInt = 8 := rfl
  have e := mulcD (c := 8) (x := k) 8 rfl (by omega) (by omega)
  refine ⟨by omega, by omega, e, ?_⟩
  rw [i32add (by omega) (by omega), e, e8]
def EbI (n : Nat) (k i : Int32) : Prop := (0 ≤ k.toInt ∧ k.toInt ≤ 511) ∧ 8 * k.toInt ≤ i.toInt ∧ i.toInt ≤ 8 * k.toInt + 8 ∧ 8 * k.toInt + 8 - i.toInt < (n : Int)
theorem ebS {n : Nat} {k i z : Int32} (hv : EbI (n + 1) k i) (hc : ¬ 8 * k + 8 ≤ i) (he : z = i + 1) : EbI n k z := by
  obtain ⟨h1, h2, h3, h4⟩ := hv
  have e8 : (8 : Int32).toInt = 8 := rfl
  have e := mulcD (c := 8) (x := k) 8 rfl (by omega) (by omega)
  rw [Int32.le_iff_toInt_le, i32add (by omega) (by omega), e, e8] at hc
  have e1 : (1 : Int32).toInt = 1 := rfl
  have ez : z.toInt = i.toInt + 1 := by rw [he, i32add (by omega) (by omega), e1]
  exact ⟨h1, by omega, by omega, by omega⟩
def f_X1_copyFrom_16_3 (σ0 : PS) : PS := (upR (upR (upS (upS (upS (upS (upS (upS (upS (upS (upS (upS (upS (upS (upS σ0 41 (σ0.1 18)) 42 (σ0.1 19)) 43 (σ0.1 20)) 44 (σ0.1 21)) 45 (σ0.1 22)) 46 (σ0.1 23)) 47 (σ0.1 24)) 48 (σ0.1 25)) 49 (σ0.1 26)) 50 (σ0.1 27)) 51 (σ0.1 28)) 52 (σ0.1 29)) 53 (σ0.1 30)) 6 (va_cpy (σ0.2.1 1) (σ0.2.1 6) 0 0 20)) 7 (va_cpy (σ0.2.1 2) (σ0.2.1 7) 0 0 20))
theorem bx_X1_copyFrom_16_3 {σ0 : PS} (hI : Bx σ0) : Bx (f_X1_copyFrom_16_3 σ0) := (bxR (bxR (bxQ_53 (bxQ_52 (bxS_51 (bxQ_50 (bxQ_49 (bxS_48 (bxS_47 (bxS_46 (bxS_45 (bxS_44 (bxS_43 (bxS_42 (bxS_41 hI)))))))) (bxg_26 (σ := σ0) hI).1 (bxg_26 (σ := σ0) hI).2) (bxg_27 (σ := σ0) hI).1 (bxg_27 (σ := σ0) hI).2)) (bxg_29 (σ := σ0) hI).1 (bxg_29 (σ := σ0) hI).2) (bxg_30 (σ := σ0) hI).1 (bxg_30 (σ := σ0) hI).2)))
abbrev rm_X1_copyFrom_16_3 : Room := { frames := 1, cells := 0, slots := 0, locals := 40 }
set_option maxHeartbeats 4000000 in
set_option maxRecDepth 100000 in
theorem c_X1_copyFrom_16_3 (l : Launch) (D : va_G) (a : Nat → Nat) (cA : Nat → ClassId) (σ0 : PS) (hI : Bx σ0) : CV l yX1_copyFrom cX1_copyFrom 2 rm_X1_copyFrom_16_3 D (pdT cA) [.ref (a 16), .ref (a 3)] (pdW a cA σ0) (pdW a cA (f_X1_copyFrom_16_3 σ0)) := by
  refine en_v (by decide +kernel) (Nat.le_of_ble_eq_true rfl) ?_
  intro p e s m args below meth c A ls Q K hw hl ret
  have hl : lv_has ls 2 [(0, .ref (a 16)), (1, .ref (a 3))] := hl
  refine lv_aload_n K.1 K.2.1 dX1_copyFrom_0 rfl (lv_at hl 0 rfl) ?_
  refine lv_aload_n K.1 K.2.1 dX1_copyFrom_1 rfl (lv_at hl 1 rfl) ?_
  refine gD_3_0 K hw kf_X1_16 dX1_copyFrom_2 ?_
  refine pD_16_0 K hw kf_X1_16 dX1_copyFrom_5 (fun H locs hw => ?_)
  refine lv_aload_n K.1 K.2.1 dX1_copyFrom_8 rfl (lv_at hl 0 rfl) ?_
  refine lv_aload_n K.1 K.2.1 dX1_copyFrom_9 rfl (lv_at hl 1 rfl) ?_
  refine gD_3_1 K hw kf_X1_32 dX1_copyFrom_10 ?_
  refine pD_16_1 K hw kf_X1_32 dX1_copyFrom_13 (fun H locs hw => ?_)
  refine lv_aload_n K.1 K.2.1 dX1_copyFrom_16 rfl (lv_at hl 0 rfl) ?_
  refine lv_aload_n K.1 K.2.1 dX1_copyFrom_17 rfl (lv_at hl 1 rfl) ?_
  refine gD_3_2 K hw kf_X1_35 dX1_copyFrom_18 ?_
  refine pD_16_2 K hw kf_X1_35 dX1_copyFrom_21 (fun H locs hw => ?_)
  refine lv_aload_n K.1 K.2.1 dX1_copyFrom_24 rfl (lv_at hl 0 rfl) ?_
  refine lv_aload_n K.1 K.2.1 dX1_copyFrom_25 rfl (lv_at hl 1 rfl) ?_
  refine gD_3_3 K hw kf_X1_38 dX1_copyFrom_26 ?_
  refine pD_16_3 K hw kf_X1_38 dX1_copyFrom_29 (fun H locs hw => ?_)
  refine lv_aload_n K.1 K.2.1 dX1_copyFrom_32 rfl (lv_at hl 0 rfl) ?_
  refine lv_aload_n K.1 K.2.1 dX1_copyFrom_33 rfl (lv_at hl 1 rfl) ?_
  refine gD_3_4 K hw kf_X1_41 dX1_copyFrom_34 ?_
  refine pD_16_4 K hw kf_X1_41 dX1_copyFrom_37 (fun H locs hw => ?_)
  refine lv_aload_n K.1 K.2.1 dX1_copyFrom_40 rfl (lv_at hl 0 rfl) ?_
  refine lv_aload_n K.1 K.2.1 dX1_copyFrom_41 rfl (lv_at hl 1 rfl) ?_
  refine gD_3_5 K hw kf_X1_20 dX1_copyFrom_42 ?_
  refine pD_16_5 K hw kf_X1_20 dX1_copyFrom_45 (fun H locs hw => ?_)
  refine lv_aload_n K.1 K.2.1 dX1_copyFrom_48 rfl (lv_at hl 0 rfl) ?_
  refine lv_aload_n K.1 K.2.1 dX1_copyFrom_49 rfl (lv_at hl 1 rfl) ?_
  refine gD_3_6 K hw kf_X1_26 dX1_copyFrom_50 ?_
  refine pD_16_6 K hw kf_X1_26 dX1_copyFrom_53 (fun H locs hw => ?_)
  refine lv_aload_n K.1 K.2.1 dX1_copyFrom_56 rfl (lv_at hl 0 rfl) ?_
  refine lv_aload_n K.1 K.2.1 dX1_copyFrom_57 rfl (lv_at hl 1 rfl) ?_
  refine gD_3_7 K hw kf_X1_29 dX1_copyFrom_58 ?_
  refine pD_16_7 K hw kf_X1_29 dX1_copyFrom_61 (fun H locs hw => ?_)
  refine lv_aload_n K.1 K.2.1 dX1_copyFrom_64 rfl (lv_at hl 0 rfl) ?_
  refine lv_aload_n K.1 K.2.1 dX1_copyFrom_65 rfl (lv_at hl 1 rfl) ?_
  refine gD_3_8 K hw kf_X1_44 dX1_copyFrom_66 ?_
  refine pD_16_8 K hw (nzB (bxg_26 (σ := σ0) hI)) (fzB (bxg_26 (σ := σ0) hI)) kf_X1_44 dX1_copyFrom_69 (fun H locs hw => ?_)
  refine lv_aload_n K.1 K.2.1 dX1_copyFrom_72 rfl (lv_at hl 0 rfl) ?_
  refine lv_aload_n K.1 K.2.1 dX1_copyFrom_73 rfl (lv_at hl 1 rfl) ?_
  refine gD_3_9 K hw kf_X1_48 dX1_copyFrom_74 ?_
  refine pD_16_9 K hw (nzB (bxg_27 (σ := σ0) hI)) (fzB (bxg_27 (σ := σ0) hI)) kf_X1_48 dX1_copyFrom_77 (fun H locs hw => ?_)
  refine lv_aload_n K.1 K.2.1 dX1_copyFrom_80 rfl (lv_at hl 0 rfl) ?_
  refine lv_aload_n K.1 K.2.1 dX1_copyFrom_81 rfl (lv_at hl 1 rfl) ?_
  refine gD_3_10 K hw kf_X1_51 dX1_copyFrom_82 ?_
  refine pD_16_10 K hw kf_X1_51 dX1_copyFrom_85 (fun H locs hw => ?_)
  refine lv_aload_n K.1 K.2.1 dX1_copyFrom_88 rfl (lv_at hl 0 rfl) ?_
  refine lv_aload_n K.1 K.2.1 dX1_copyFrom_89 rfl (lv_at hl 1 rfl) ?_
  refine gD_3_11 K hw kf_X1_54 dX1_copyFrom_90 ?_
  refine pD_16_11 K hw kf_X1_54 dX1_copyFrom_93 (fun H locs hw => ?_)
  refine lv_aload_n K.1 K.2.1 dX1_copyFrom_96 rfl (lv_at hl 0 rfl) ?_
  refine lv_aload_n K.1 K.2.1 dX1_copyFrom_97 rfl (lv_at hl 1 rfl) ?_
  refine gD_3_12 K hw kf_X1_23 dX1_copyFrom_98 ?_
  refine pD_16_12 K hw kf_X1_23 dX1_copyFrom_101 (fun H locs hw => ?_)
  refine lv_aload_n K.1 K.2.1 dX1_copyFrom_104 rfl (lv_at hl 1 rfl) ?_
  refine gD_3_13 K hw kf_X1_9 dX1_copyFrom_105 ?_
  refine lv_iconst (v := 0) K.1 K.2.1 dX1_copyFrom_108 (by decide) ?_
  refine lv_aload_n K.1 K.2.1 dX1_copyFrom_109 rfl (lv_at hl 0 rfl) ?_
  refine gD_16_13 K hw kf_X1_9 dX1_copyFrom_110 ?_
  refine lv_iconst (v := 0) K.1 K.2.1 dX1_copyFrom_113 (by decide) ?_
  refine lv_bipush (v := 20) K.1 K.2.1 dX1_copyFrom_114 (by decide) ?_
  refine cpD_8_19 K hw km_X1_57 hl.1 (by decide) (Nat.le_of_ble_eq_true rfl) dX1_copyFrom_116 (fun H locs hw => ?_)
  refine lv_aload_n K.1 K.2.1 dX1_copyFrom_119 rfl (lv_at hl 1 rfl) ?_
  refine gD_3_14 K hw kf_X1_13 dX1_copyFrom_120 ?_
  refine lv_iconst (v := 0) K.1 K.2.1 dX1_copyFrom_123 (by decide) ?_
  refine lv_aload_n K.1 K.2.1 dX1_copyFrom_124 rfl (lv_at hl 0 rfl) ?_
  refine gD_16_14 K hw kf_X1_13 dX1_copyFrom_125 ?_
  refine lv_iconst (v := 0) K.1 K.2.1 dX1_copyFrom_128 (by decide) ?_
  refine lv_bipush (v := 20) K.1 K.2.1 dX1_copyFrom_129 (by decide) ?_
  refine cpD_9_20 K hw km_X1_57 hl.1 (by decide) (Nat.le_of_ble_eq_true rfl) dX1_copyFrom_131 (fun H locs hw => ?_)
  exact ret (congrArg (pdW a cA) (by exact rfl)) hw dX1_copyFrom_134
def f_X1_copyFrom_17_3 (σ0 : PS) : PS := (upR (upR (upS (upS (upS (upS (upS (upS (upS (upS (upS (upS (upS (upS (upS σ0 54 (σ0.1 18)) 55 (σ0.1 19)) 56 (σ0.1 20)) 57 (σ0.1 21)) 58 (σ0.1 22)) 59 (σ0.1 23)) 60 (σ0.1 24)) 61 (σ0.1 25)) 62 (σ0.1 26)) 63 (σ0.1 27)) 64 (σ0.1 28)) 65 (σ0.1 29)) 66 (σ0.1 30)) 8 (va_cpy (σ0.2.1 1) (σ0.2.1 8) 0 0 20)) 9 (va_cpy (σ0.2.1 2) (σ0.2.1 9) 0 0 20))
theorem bx_X1_copyFrom_17_3 {σ0 : PS} (hI : Bx σ0) : Bx (f_X1_copyFrom_17_3 σ0) := (bxR (bxR (bxQ_66 (bxQ_65 (bxS_64 (bxQ_63 (bxQ_62 (bxS_61 (bxS_60 (bxS_59 (bxS_58 (bxS_57 (bxS_56 (bxS_55 (bxS_54 hI)))))))) (bxg_26 (σ := σ0) hI).1 (bxg_26 (σ := σ0) hI).2) (bxg_27 (σ := σ0) hI).1 (bxg_27 (σ := σ0) hI).2)) (bxg_29 (σ := σ0) hI).1 (bxg_29 (σ := σ0) hI).2) (bxg_30 (σ := σ0) hI).1 (bxg_30 (σ := σ0) hI).2)))
abbrev rm_X1_copyFrom_17_3 : Room := { frames := 1, cells := 0, slots := 0, locals := 40 }
set_option maxHeartbeats 4000000 in
set_option maxRecDepth 100000 in
theorem c_X1_copyFrom_17_3 (l : Launch) (D : va_G) (a : Nat → Nat) (cA : Nat → ClassId) (σ0 : PS) (hI : Bx σ0) : CV l yX1_copyFrom cX1_copyFrom 2 rm_X1_copyFrom_17_3 D (pdT cA) [.ref (a 17), .ref (a 3)] (pdW a cA σ0) (pdW a cA (f_X1_copyFrom_17_3 σ0)) := by
  refine en_v (by decide +kernel) (Nat.le_of_ble_eq_true rfl) ?_
  intro p e s m args below meth c A ls Q K hw hl ret
  have hl : lv_has ls 2 [(0, .ref (a 17)), (1, .ref (a 3))] := hl
  refine lv_aload_n K.1 K.2.1 dX1_copyFrom_0 rfl (lv_at hl 0 rfl) ?_
  refine lv_aload_n K.1 K.2.1 dX1_copyFrom_1 rfl (lv_at hl 1 rfl) ?_
  refine gD_3_0 K hw kf_X1_16 dX1_copyFrom_2 ?_
  refine pD_17_0 K hw kf_X1_16 dX1_copyFrom_5 (fun H locs hw => ?_)
  refine lv_aload_n K.1 K.2.1 dX1_copyFrom_8 rfl (lv_at hl 0 rfl) ?_
  refine lv_aload_n K.1 K.2.1 dX1_copyFrom_9 rfl (lv_at hl 1 rfl) ?_
  refine gD_3_1 K hw kf_X1_32 dX1_copyFrom_10 ?_
  refine pD_17_1 K hw kf_X1_32 dX1_copyFrom_13 (fun H locs hw => ?_)
  refine lv_aload_n K.1 K.2.1 dX1_copyFrom_16 rfl (lv_at hl 0 rfl) ?_
  refine lv_aload_n K.1 K.2.1 dX1_copyFrom_17 rfl (lv_at hl 1 rfl) ?_
  refine gD_3_2 K hw kf_X1_35 dX1_copyFrom_18 ?_
  refine pD_17_2 K hw kf_X1_35 dX1_copyFrom_21 (fun H locs hw => ?_)
  refine lv_aload_n K.1 K.2.1 dX1_copyFrom_24 rfl (lv_at hl 0 rfl) ?_
  refine lv_aload_n K.1 K.2.1 dX1_copyFrom_25 rfl (lv_at hl 1 rfl) ?_
  refine gD_3_3 K hw kf_X1_38 dX1_copyFrom_26 ?_
  refine pD_17_3 K hw kf_X1_38 dX1_copyFrom_29 (fun H locs hw => ?_)
  refine lv_aload_n K.1 K.2.1 dX1_copyFrom_32 rfl (lv_at hl 0 rfl) ?_
  refine lv_aload_n K.1 K.2.1 dX1_copyFrom_33 rfl (lv_at hl 1 rfl) ?_
  refine gD_3_4 K hw kf_X1_41 dX1_copyFrom_34 ?_
  refine pD_17_4 K hw kf_X1_41 dX1_copyFrom_37 (fun H locs hw => ?_)
  refine lv_aload_n K.1 K.2.1 dX1_copyFrom_40 rfl (lv_at hl 0 rfl) ?_
  refine lv_aload_n K.1 K.2.1 dX1_copyFrom_41 rfl (lv_at hl 1 rfl) ?_
  refine gD_3_5 K hw kf_X1_20 dX1_copyFrom_42 ?_
  refine pD_17_5 K hw kf_X1_20 dX1_copyFrom_45 (fun H locs hw => ?_)
  refine lv_aload_n K.1 K.2.1 dX1_copyFrom_48 rfl (lv_at hl 0 rfl) ?_
  refine lv_aload_n K.1 K.2.1 dX1_copyFrom_49 rfl (lv_at hl 1 rfl) ?_
  refine gD_3_6 K hw kf_X1_26 dX1_copyFrom_50 ?_
  refine pD_17_6 K hw kf_X1_26 dX1_copyFrom_53 (fun H locs hw => ?_)
  refine lv_aload_n K.1 K.2.1 dX1_copyFrom_56 rfl (lv_at hl 0 rfl) ?_
  refine lv_aload_n K.1 K.2.1 dX1_copyFrom_57 rfl (lv_at hl 1 rfl) ?_
  refine gD_3_7 K hw kf_X1_29 dX1_copyFrom_58 ?_
  refine pD_17_7 K hw kf_X1_29 dX1_copyFrom_61 (fun H locs hw => ?_)
  refine lv_aload_n K.1 K.2.1 dX1_copyFrom_64 rfl (lv_at hl 0 rfl) ?_
  refine lv_aload_n K.1 K.2.1 dX1_copyFrom_65 rfl (lv_at hl 1 rfl) ?_
  refine gD_3_8 K hw kf_X1_44 dX1_copyFrom_66 ?_
  refine pD_17_8 K hw (nzB (bxg_26 (σ := σ0) hI)) (fzB (bxg_26 (σ := σ0) hI)) kf_X1_44 dX1_copyFrom_69 (fun H locs hw => ?_)
  refine lv_aload_n K.1 K.2.1 dX1_copyFrom_72 rfl (lv_at hl 0 rfl) ?_
  refine lv_aload_n K.1 K.2.1 dX1_copyFrom_73 rfl (lv_at hl 1 rfl) ?_
  refine gD_3_9 K hw kf_X1_48 dX1_copyFrom_74 ?_
  refine pD_17_9 K hw (nzB (bxg_27 (σ := σ0) hI)) (fzB (bxg_27 (σ := σ0) hI)) kf_X1_48 dX1_copyFrom_77 (fun H locs hw => ?_)
  refine lv_aload_n K.1 K.2.1 dX1_copyFrom_80 rfl (lv_at hl 0 rfl) ?_
  refine lv_aload_n K.1 K.2.1 dX1_copyFrom_81 rfl (lv_at hl 1 rfl) ?_
  refine gD_3_10 K hw kf_X1_51 dX1_copyFrom_82 ?_
  refine pD_17_10 K hw kf_X1_51 dX1_copyFrom_85 (fun H locs hw => ?_)
  refine lv_aload_n K.1 K.2.1 dX1_copyFrom_88 rfl (lv_at hl 0 rfl) ?_
  refine lv_aload_n K.1 K.2.1 dX1_copyFrom_89 rfl (lv_at hl 1 rfl) ?_
  refine gD_3_11 K hw kf_X1_54 dX1_copyFrom_90 ?_
  refine pD_17_11 K hw kf_X1_54 dX1_copyFrom_93 (fun H locs hw => ?_)
  refine lv_aload_n K.1 K.2.1 dX1_copyFrom_96 rfl (lv_at hl 0 rfl) ?_
  refine lv_aload_n K.1 K.2.1 dX1_copyFrom_97 rfl (lv_at hl 1 rfl) ?_
  refine gD_3_12 K hw kf_X1_23 dX1_copyFrom_98 ?_
  refine pD_17_12 K hw kf_X1_23 dX1_copyFrom_101 (fun H locs hw => ?_)
  refine lv_aload_n K.1 K.2.1 dX1_copyFrom_104 rfl (lv_at hl 1 rfl) ?_
  refine gD_3_13 K hw kf_X1_9 dX1_copyFrom_105 ?_
  refine lv_iconst (v := 0) K.1 K.2.1 dX1_copyFrom_108 (by decide) ?_
  refine lv_aload_n K.1 K.2.1 dX1_copyFrom_109 rfl (lv_at hl 0 rfl) ?_
  refine gD_17_13 K hw kf_X1_9 dX1_copyFrom_110 ?_
  refine lv_iconst (v := 0) K.1 K.2.1 dX1_copyFrom_113 (by decide) ?_
  refine lv_bipush (v := 20) K.1 K.2.1 dX1_copyFrom_114 (by decide) ?_
  refine cpD_8_21 K hw km_X1_57 hl.1 (by decide) (Nat.le_of_ble_eq_true rfl) dX1_copyFrom_116 (fun H locs hw => ?_)
  refine lv_aload_n K.1 K.2.1 dX1_copyFrom_119 rfl (lv_at hl 1 rfl) ?_
  refine gD_3_14 K hw kf_X1_13 dX1_copyFrom_120 ?_
  refine lv_iconst (v := 0) K.1 K.2.1 dX1_copyFrom_123 (by decide) ?_
  refine lv_aload_n K.1 K.2.1 dX1_copyFrom_124 rfl (lv_at hl 0 rfl) ?_
  refine gD_17_14 K hw kf_X1_13 dX1_copyFrom_125 ?_
  refine lv_iconst (v := 0) K.1 K.2.1 dX1_copyFrom_128 (by decide) ?_
  refine lv_bipush (v := 20) K.1 K.2.1 dX1_copyFrom_129 (by decide) ?_
  refine cpD_9_22 K hw km_X1_57 hl.1 (by decide) (Nat.le_of_ble_eq_true rfl) dX1_copyFrom_131 (fun H locs hw => ?_)
  exact ret (congrArg (pdW a cA) (by exact rfl)) hw dX1_copyFrom_134
def f_X1_copyFrom_18_3 (σ0 : PS) : PS := (upR (upR (upS (upS (upS (upS (upS (upS (upS (upS (upS (upS (upS (upS (upS σ0 67 (σ0.1 18)) 68 (σ0.1 19)) 69 (σ0.1 20)) 70 (σ0.1 21)) 71 (σ0.1 22)) 72 (σ0.1 23)) 73 (σ0.1 24)) 74 (σ0.1 25)) 75 (σ0.1 26)) 76 (σ0.1 27)) 77 (σ0.1 28)) 78 (σ0.1 29)) 79 (σ0.1 30)) 10 (va_cpy (σ0.2.1 1) (σ0.2.1 10) 0 0 20)) 11 (va_cpy (σ0.2.1 2) (σ0.2.1 11) 0 0 20))
theorem bx_X1_copyFrom_18_3 {σ0 : PS} (hI : Bx σ0) : Bx (f_X1_copyFrom_18_3 σ0) := (bxR (bxR (bxQ_79 (bxQ_78 (bxS_77 (bxQ_76 (bxQ_75 (bxS_74 (bxS_73 (bxS_72 (bxS_71 (bxS_70 (bxS_69 (bxS_68 (bxS_67 hI)))))))) (bxg_26 (σ := σ0) hI).1 (bxg_26 (σ := σ0) hI).2) (bxg_27 (σ := σ0) hI).1 (bxg_27 (σ := σ0) hI).2)) (bxg_29 (σ := σ0) hI).1 (bxg_29 (σ := σ0) hI).2) (bxg_30 (σ := σ0) hI).1 (bxg_30 (σ := σ0) hI).2)))
abbrev rm_X1_copyFrom_18_3 : Room := { frames := 1, cells := 0, slots := 0, locals := 40 }
set_option maxHeartbeats 4000000 in
set_option maxRecDepth 100000 in
theorem c_X1_copyFrom_18_3 (l : Launch) (D : va_G) (a : Nat → Nat) (cA : Nat → ClassId) (σ0 : PS) (hI : Bx σ0) : CV l yX1_copyFrom cX1_copyFrom 2 rm_X1_copyFrom_18_3 D (pdT cA) [.ref (a 18), .ref (a 3)] (pdW a cA σ0) (pdW a cA (f_X1_copyFrom_18_3 σ0)) := by
  refine en_v (by decide +kernel) (Nat.le_of_ble_eq_true rfl) ?_
  intro p e s m args below meth c A ls Q K hw hl ret
  have hl : lv_has ls 2 [(0, .ref (a 18)), (1, .ref (a 3))] := hl
  refine lv_aload_n K.1 K.2.1 dX1_copyFrom_0 rfl (lv_at hl 0 rfl) ?_
  refine lv_aload_n K.1 K.2.1 dX1_copyFrom_1 rfl (lv_at hl 1 rfl) ?_
  refine gD_3_0 K hw kf_X1_16 dX1_copyFrom_2 ?_
  refine pD_18_0 K hw kf_X1_16 dX1_copyFrom_5 (fun H locs hw => ?_)
  refine lv_aload_n K.1 K.2.1 dX1_copyFrom_8 rfl (lv_at hl 0 rfl) ?_
  refine lv_aload_n K.1 K.2.1 dX1_copyFrom_9 rfl (lv_at hl 1 rfl) ?_
  refine gD_3_1 K hw kf_X1_32 dX1_copyFrom_10 ?_
  refine pD_18_1 K hw kf_X1_32 dX1_copyFrom_13 (fun H locs hw => ?_)
  refine lv_aload_n K.1 K.2.1 dX1_copyFrom_16 rfl (lv_at hl 0 rfl) ?_
  refine lv_aload_n K.1 K.2.1 dX1_copyFrom_17 rfl (lv_at hl 1 rfl) ?_
  refine gD_3_2 K hw kf_X1_35 dX1_copyFrom_18 ?_
  refine pD_18_2 K hw kf_X1_35 dX1_copyFrom_21 (fun H locs hw => ?_)
  refine lv_aload_n K.1 K.2.1 dX1_copyFrom_24 rfl (lv_at hl 0 rfl) ?_
  refine lv_aload_n K.1 K.2.1 dX1_copyFrom_25 rfl (lv_at hl 1 rfl) ?_
  refine gD_3_3 K hw kf_X1_38 dX1_copyFrom_26 ?_
  refine pD_18_3 K hw kf_X1_38 dX1_copyFrom_29 (fun H locs hw => ?_)
  refine lv_aload_n K.1 K.2.1 dX1_copyFrom_32 rfl (lv_at hl 0 rfl) ?_
  refine lv_aload_n K.1 K.2.1 dX1_copyFrom_33 rfl (lv_at hl 1 rfl) ?_
  refine gD_3_4 K hw kf_X1_41 dX1_copyFrom_34 ?_
  refine pD_18_4 K hw kf_X1_41 dX1_copyFrom_37 (fun H locs hw => ?_)
  refine lv_aload_n K.1 K.2.1 dX1_copyFrom_40 rfl (lv_at hl 0 rfl) ?_
  refine lv_aload_n K.1 K.2.1 dX1_copyFrom_41 rfl (lv_at hl 1 rfl) ?_
  refine gD_3_5 K hw kf_X1_20 dX1_copyFrom_42 ?_
  refine pD_18_5 K hw kf_X1_20 dX1_copyFrom_45 (fun H locs hw => ?_)
  refine lv_aload_n K.1 K.2.1 dX1_copyFrom_48 rfl (lv_at hl 0 rfl) ?_
  refine lv_aload_n K.1 K.2.1 dX1_copyFrom_49 rfl (lv_at hl 1 rfl) ?_
  refine gD_3_6 K hw kf_X1_26 dX1_copyFrom_50 ?_
  refine pD_18_6 K hw kf_X1_26 dX1_copyFrom_53 (fun H locs hw => ?_)
  refine lv_aload_n K.1 K.2.1 dX1_copyFrom_56 rfl (lv_at hl 0 rfl) ?_
  refine lv_aload_n K.1 K.2.1 dX1_copyFrom_57 rfl (lv_at hl 1 rfl) ?_
  refine gD_3_7 K hw kf_X1_29 dX1_copyFrom_58 ?_
  refine pD_18_7 K hw kf_X1_29 dX1_copyFrom_61 (fun H locs hw => ?_)
  refine lv_aload_n K.1 K.2.1 dX1_copyFrom_64 rfl (lv_at hl 0 rfl) ?_
  refine lv_aload_n K.1 K.2.1 dX1_copyFrom_65 rfl (lv_at hl 1 rfl) ?_
  refine gD_3_8 K hw kf_X1_44 dX1_copyFrom_66 ?_
  refine pD_18_8 K hw (nzB (bxg_26 (σ := σ0) hI)) (fzB (bxg_26 (σ := σ0) hI)) kf_X1_44 dX1_copyFrom_69 (fun H locs hw => ?_)
  refine lv_aload_n K.1 K.2.1 dX1_copyFrom_72 rfl (lv_at hl 0 rfl) ?_
  refine lv_aload_n K.1 K.2.1 dX1_copyFrom_73 rfl (lv_at hl 1 rfl) ?_
  refine gD_3_9 K hw kf_X1_48 dX1_copyFrom_74 ?_
  refine pD_18_9 K hw (nzB (bxg_27 (σ := σ0) hI)) (fzB (bxg_27 (σ := σ0) hI)) kf_X1_48 dX1_copyFrom_77 (fun H locs hw => ?_)
  refine lv_aload_n K.1 K.2.1 dX1_copyFrom_80 rfl (lv_at hl 0 rfl) ?_
  refine lv_aload_n K.1 K.2.1 dX1_copyFrom_81 rfl (lv_at hl 1 rfl) ?_
  refine gD_3_10 K hw kf_X1_51 dX1_copyFrom_82 ?_
  refine pD_18_10 K hw kf_X1_51 dX1_copyFrom_85 (fun H locs hw => ?_)
  refine lv_aload_n K.1 K.2.1 dX1_copyFrom_88 rfl (lv_at hl 0 rfl) ?_
  refine lv_aload_n K.1 K.2.1 dX1_copyFrom_89 rfl (lv_at hl 1 rfl) ?_
  refine gD_3_11 K hw kf_X1_54 dX1_copyFrom_90 ?_
  refine pD_18_11 K hw kf_X1_54 dX1_copyFrom_93 (fun H locs hw => ?_)
  refine lv_aload_n K.1 K.2.1 dX1_copyFrom_96 rfl (lv_at hl 0 rfl) ?_
  refine lv_aload_n K.1 K.2.1 dX1_copyFrom_97 rfl (lv_at hl 1 rfl) ?_
  refine gD_3_12 K hw kf_X1_23 dX1_copyFrom_98 ?_
  refine pD_18_12 K hw kf_X1_23 dX1_copyFrom_101 (fun H locs hw => ?_)
  refine lv_aload_n K.1 K.2.1 dX1_copyFrom_104 rfl (lv_at hl 1 rfl) ?_
  refine gD_3_13 K hw kf_X1_9 dX1_copyFrom_105 ?_
  refine lv_iconst (v := 0) K.1 K.2.1 dX1_copyFrom_108 (by decide) ?_
  refine lv_aload_n K.1 K.2.1 dX1_copyFrom_109 rfl (lv_at hl 0 rfl) ?_
  refine gD_18_13 K hw kf_X1_9 dX1_copyFrom_110 ?_
  refine lv_iconst (v := 0) K.1 K.2.1 dX1_copyFrom_113 (by decide) ?_
  refine lv_bipush (v := 20) K.1 K.2.1 dX1_copyFrom_114 (by decide) ?_
  refine cpD_8_23 K hw km_X1_57 hl.1 (by decide) (Nat.le_of_ble_eq_true rfl) dX1_copyFrom_116 (fun H locs hw => ?_)
  refine lv_aload_n K.1 K.2.1 dX1_copyFrom_119 rfl (lv_at hl 1 rfl) ?_
  refine gD_3_14 K hw kf_X1_13 dX1_copyFrom_120 ?_
  refine lv_iconst (v := 0) K.1 K.2.1 dX1_copyFrom_123 (by decide) ?_
  refine lv_aload_n K.1 K.2.1 dX1_copyFrom_124 rfl (lv_at hl 0 rfl) ?_
  refine gD_18_14 K hw kf_X1_13 dX1_copyFrom_125 ?_
  refine lv_iconst (v := 0) K.1 K.2.1 dX1_copyFrom_128 (by decide) ?_
  refine lv_bipush (v := 20) K.1 K.2.1 dX1_copyFrom_129 (by decide) ?_
  refine cpD_9_24 K hw km_X1_57 hl.1 (by decide) (Nat.le_of_ble_eq_true rfl) dX1_copyFrom_131 (fun H locs hw => ?_)
  exact ret (congrArg (pdW a cA) (by exact rfl)) hw dX1_copyFrom_134
def f_X1_copyFrom_3_16 (σ0 : PS) : PS := (upR (upR (upS (upS (upS (upS (upS (upS (upS (upS (upS (upS (upS (upS (upS σ0 18 (σ0.1 41)) 19 (σ0.1 42)) 20 (σ0.1 43)) 21 (σ0.1 44)) 22 (σ0.1 45)) 23 (σ0.1 46)) 24 (σ0.1 47)) 25 (σ0.1 48)) 26 (σ0.1 49)) 27 (σ0.1 50)) 28 (σ0.1 51)) 29 (σ0.1 52)) 30 (σ0.1 53)) 1 (va_cpy (σ0.2.1 6) (σ0.2.1 1) 0 0 20)) 2 (va_cpy (σ0.2.1 7) (σ0.2.1 2) 0 0 20))
theorem bx_X1_copyFrom_3_16 {σ0 : PS} (hI : Bx σ0) : Bx (f_X1_copyFrom_3_16 σ0) := (bxR (bxR (bxQ_30 (bxQ_29 (bxS_28 (bxQ_27 (bxQ_26 (bxS_25 (bxS_24 (bxS_23 (bxS_22 (bxS_21 (bxS_20 (bxS_19 (bxS_18 hI)))))))) (bxg_49 (σ := σ0) hI).1 (bxg_49 (σ := σ0) hI).2) (bxg_50 (σ := σ0) hI).1 (bxg_50 (σ := σ0) hI).2)) (bxg_52 (σ := σ0) hI).1 (bxg_52 (σ := σ0) hI).2) (bxg_53 (σ := σ0) hI).1 (bxg_53 (σ := σ0) hI).2)))
abbrev rm_X1_copyFrom_3_16 : Room := { frames := 1, cells := 0, slots := 0, locals := 40 }
set_option maxHeartbeats 4000000 in
set_option maxRecDepth 100000 in
theorem c_X1_copyFrom_3_16 (l : Launch) (D : va_G) (a : Nat → Nat) (cA : Nat → ClassId) (σ0 : PS) (hI : Bx σ0) : CV l yX1_copyFrom cX1_copyFrom 2 rm_X1_copyFrom_3_16 D (pdT cA) [.ref (a 3), .ref (a 16)] (pdW a cA σ0) (pdW a cA (f_X1_copyFrom_3_16 σ0)) := by
  refine en_v (by decide +kernel) (Nat.le_of_ble_eq_true rfl) ?_
  intro p e s m args below meth c A ls Q K hw hl ret
  have hl : lv_has ls 2 [(0, .ref (a 3)), (1, .ref (a 16))] := hl
  refine lv_aload_n K.1 K.2.1 dX1_copyFrom_0 rfl (lv_at hl 0 rfl) ?_
  refine lv_aload_n K.1 K.2.1 dX1_copyFrom_1 rfl (lv_at hl 1 rfl) ?_
  refine gD_16_0 K hw kf_X1_16 dX1_copyFrom_2 ?_
  refine pD_3_0 K hw kf_X1_16 dX1_copyFrom_5 (fun H locs hw => ?_)
  refine lv_aload_n K.1 K.2.1 dX1_copyFrom_8 rfl (lv_at hl 0 rfl) ?_
  refine lv_aload_n K.1 K.2.1 dX1_copyFrom_9 rfl (lv_at hl 1 rfl) ?_
  refine gD_16_1 K hw kf_X1_32 dX1_copyFrom_10 ?_
  refine pD_3_1 K hw kf_X1_32 dX1_copyFrom_13 (fun H locs hw => ?_)
  refine lv_aload_n K.1 K.2.1 dX1_copyFrom_16 rfl (lv_at hl 0 rfl) ?_
  refine lv_aload_n K.1 K.2.1 dX1_copyFrom_17 rfl (lv_at hl 1 rfl) ?_
  refine gD_16_2 K hw kf_X1_35 dX1_copyFrom_18 ?_
  refine pD_3_2 K hw kf_X1_35 dX1_copyFrom_21 (fun H locs hw => ?_)
  refine lv_aload_n K.1 K.2.1 dX1_copyFrom_24 rfl (lv_at hl 0 rfl) ?_
  refine lv_aload_n K.1 K.2.1 dX1_copyFrom_25 rfl (lv_at hl 1 rfl) ?_
  refine gD_16_3 K hw kf_X1_38 dX1_copyFrom_26 ?_
  refine pD_3_3 K hw kf_X1_38 dX1_copyFrom_29 (fun H locs hw => ?_)
  refine lv_aload_n K.1 K.2.1 dX1_copyFrom_32 rfl (lv_at hl 0 rfl) ?_
  refine lv_aload_n K.1 K.2.1 dX1_copyFrom_33 rfl (lv_at hl 1 rfl) ?_
  refine gD_16_4 K hw kf_X1_41 dX1_copyFrom_34 ?_
  refine pD_3_4 K hw kf_X1_41 dX1_copyFrom_37 (fun H locs hw => ?_)
  refine lv_aload_n K.1 K.2.1 dX1_copyFrom_40 rfl (lv_at hl 0 rfl) ?_
  refine lv_aload_n K.1 K.2.1 dX1_copyFrom_41 rfl (lv_at hl 1 rfl) ?_
  refine gD_16_5 K hw kf_X1_20 dX1_copyFrom_42 ?_
  refine pD_3_5 K hw kf_X1_20 dX1_copyFrom_45 (fun H locs hw => ?_)
  refine lv_aload_n K.1 K.2.1 dX1_copyFrom_48 rfl (lv_at hl 0 rfl) ?_
  refine lv_aload_n K.1 K.2.1 dX1_copyFrom_49 rfl (lv_at hl 1 rfl) ?_
  refine gD_16_6 K hw kf_X1_26 dX1_copyFrom_50 ?_
  refine pD_3_6 K hw kf_X1_26 dX1_copyFrom_53 (fun H locs hw => ?_)
  refine lv_aload_n K.1 K.2.1 dX1_copyFrom_56 rfl (lv_at hl 0 rfl) ?_
  refine lv_aload_n K.1 K.2.1 dX1_copyFrom_57 rfl (lv_at hl 1 rfl) ?_
  refine gD_16_7 K hw kf_X1_29 dX1_copyFrom_58 ?_
  refine pD_3_7 K hw kf_X1_29 dX1_copyFrom_61 (fun H locs hw => ?_)
  refine lv_aload_n K.1 K.2.1 dX1_copyFrom_64 rfl (lv_at hl 0 rfl) ?_
  refine lv_aload_n K.1 K.2.1 dX1_copyFrom_65 rfl (lv_at hl 1 rfl) ?_
  refine gD_16_8 K hw kf_X1_44 dX1_copyFrom_66 ?_
  refine pD_3_8 K hw (nzB (bxg_49 (σ := σ0) hI)) (fzB (bxg_49 (σ := σ0) hI)) kf_X1_44 dX1_copyFrom_69 (fun H locs hw => ?_)
  refine lv_aload_n K.1 K.2.1 dX1_copyFrom_72 rfl (lv_at hl 0 rfl) ?_
  refine lv_aload_n K.1 K.2.1 dX1_copyFrom_73 rfl (lv_at hl 1 rfl) ?_
  refine gD_16_9 K hw kf_X1_48 dX1_copyFrom_74 ?_
  refine pD_3_9 K hw (nzB (bxg_50 (σ := σ0) hI)) (fzB (bxg_50 (σ := σ0) hI)) kf_X1_48 dX1_copyFrom_77 (fun H locs hw => ?_)
  refine lv_aload_n K.1 K.2.1 dX1_copyFrom_80 rfl (lv_at hl 0 rfl) ?_
  refine lv_aload_n K.1 K.2.1 dX1_copyFrom_81 rfl (lv_at hl 1 rfl) ?_
  refine gD_16_10 K hw kf_X1_51 dX1_copyFrom_82 ?_
  refine pD_3_10 K hw kf_X1_51 dX1_copyFrom_85 (fun H locs hw => ?_)
  refine lv_aload_n K.1 K.2.1 dX1_copyFrom_88 rfl (lv_at hl 0 rfl) ?_
  refine lv_aload_n K.1 K.2.1 dX1_copyFrom_89 rfl (lv_at hl 1 rfl) ?_
  refine gD_16_11 K hw kf_X1_54 dX1_copyFrom_90 ?_
  refine pD_3_11 K hw kf_X1_54 dX1_copyFrom_93 (fun H locs hw => ?_)
  refine lv_aload_n K.1 K.2.1 dX1_copyFrom_96 rfl (lv_at hl 0 rfl) ?_
  refine lv_aload_n K.1 K.2.1 dX1_copyFrom_97 rfl (lv_at hl 1 rfl) ?_
  refine gD_16_12 K hw kf_X1_23 dX1_copyFrom_98 ?_
  refine pD_3_12 K hw kf_X1_23 dX1_copyFrom_101 (fun H locs hw => ?_)
  refine lv_aload_n K.1 K.2.1 dX1_copyFrom_104 rfl (lv_at hl 1 rfl) ?_
  refine gD_16_13 K hw kf_X1_9 dX1_copyFrom_105 ?_
  refine lv_iconst (v := 0) K.1 K.2.1 dX1_copyFrom_108 (by decide) ?_
  refine lv_aload_n K.1 K.2.1 dX1_copyFrom_109 rfl (lv_at hl 0 rfl) ?_
  refine gD_3_13 K hw kf_X1_9 dX1_copyFrom_110 ?_
  refine lv_iconst (v := 0) K.1 K.2.1 dX1_copyFrom_113 (by decide) ?_
  refine lv_bipush (v := 20) K.1 K.2.1 dX1_copyFrom_114 (by decide) ?_
  refine cpD_19_8 K hw km_X1_57 hl.1 (by decide) (Nat.le_of_ble_eq_true rfl) dX1_copyFrom_116 (fun H locs hw => ?_)
  refine lv_aload_n K.1 K.2.1 dX1_copyFrom_119 rfl (lv_at hl 1 rfl) ?_
  refine gD_16_14 K hw kf_X1_13 dX1_copyFrom_120 ?_
  refine lv_iconst (v := 0) K.1 K.2.1 dX1_copyFrom_123 (by decide) ?_
  refine lv_aload_n K.1 K.2.1 dX1_copyFrom_124 rfl (lv_at hl 0 rfl) ?_
  refine gD_3_14 K hw kf_X1_13 dX1_copyFrom_125 ?_
  refine lv_iconst (v := 0) K.1 K.2.1 dX1_copyFrom_128 (by decide) ?_
  refine lv_bipush (v := 20) K.1 K.2.1 dX1_copyFrom_129 (by decide) ?_
  refine cpD_20_9 K hw km_X1_57 hl.1 (by decide) (Nat.le_of_ble_eq_true rfl) dX1_copyFrom_131 (fun H locs hw => ?_)
  exact ret (congrArg (pdW a cA) (by exact rfl)) hw dX1_copyFrom_134
def f_X1_copyFrom_3_17 (σ0 : PS) : PS := (upR (upR (upS (upS (upS (upS (upS (upS (upS (upS (upS (upS (upS (upS (upS σ0 18 (σ0.1 54)) 19 (σ0.1 55)) 20 (σ0.1 56)) 21 (σ0.1 57)) 22 (σ0.1 58)) 23 (σ0.1 59)) 24 (σ0.1 60)) 25 (σ0.1 61)) 26 (σ0.1 62)) 27 (σ0.1 63)) 28 (σ0.1 64)) 29 (σ0.1 65)) 30 (σ0.1 66)) 1 (va_cpy (σ0.2.1 8) (σ0.2.1 1) 0 0 20)) 2 (va_cpy (σ0.2.1 9) (σ0.2.1 2) 0 0 20))
theorem bx_X1_copyFrom_3_17 {σ0 : PS} (hI : Bx σ0) : Bx (f_X1_copyFrom_3_17 σ0) := (bxR (bxR (bxQ_30 (bxQ_29 (bxS_28 (bxQ_27 (bxQ_26 (bxS_25 (bxS_24 (bxS_23 (bxS_22 (bxS_21 (bxS_20 (bxS_19 (bxS_18 hI)))))))) (bxg_62 (σ := σ0) hI).1 (bxg_62 (σ := σ0) hI).2) (bxg_63 (σ := σ0) hI).1 (bxg_63 (σ := σ0) hI).2)) (bxg_65 (σ := σ0) hI).1 (bxg_65 (σ := σ0) hI).2) (bxg_66 (σ := σ0) hI).1 (bxg_66 (σ := σ0) hI).2)))
abbrev rm_X1_copyFrom_3_17 : Room := { frames := 1, cells := 0, slots := 0, locals := 40 }
set_option maxHeartbeats 4000000 in
set_option maxRecDepth 100000 in
theorem c_X1_copyFrom_3_17 (l : Launch) (D : va_G) (a : Nat → Nat) (cA : Nat → ClassId) (σ0 : PS) (hI : Bx σ0) : CV l yX1_copyFrom cX1_copyFrom 2 rm_X1_copyFrom_3_17 D (pdT cA) [.ref (a 3), .ref (a 17)] (pdW a cA σ0) (pdW a cA (f_X1_copyFrom_3_17 σ0)) := by
  refine en_v (by decide +kernel) (Nat.le_of_ble_eq_true rfl) ?_
  intro p e s m args below meth c A ls Q K hw hl ret
  have hl : lv_has ls 2 [(0, .ref (a 3)), (1, .ref (a 17))] := hl
  refine lv_aload_n K.1 K.2.1 dX1_copyFrom_0 rfl (lv_at hl 0 rfl) ?_
  refine lv_aload_n K.1 K.2.1 dX1_copyFrom_1 rfl (lv_at hl 1 rfl) ?_
  refine gD_17_0 K hw kf_X1_16 dX1_copyFrom_2 ?_
  refine pD_3_0 K hw kf_X1_16 dX1_copyFrom_5 (fun H locs hw => ?_)
  refine lv_aload_n K.1 K.2.1 dX1_copyFrom_8 rfl (lv_at hl 0 rfl) ?_
  refine lv_aload_n K.1 K.2.1 dX1_copyFrom_9 rfl (lv_at hl 1 rfl) ?_
  refine gD_17_1 K hw kf_X1_32 dX1_copyFrom_10 ?_
  refine pD_3_1 K hw kf_X1_32 dX1_copyFrom_13 (fun H locs hw => ?_)
  refine lv_aload_n K.1 K.2.1 dX1_copyFrom_16 rfl (lv_at hl 0 rfl) ?_
  refine lv_aload_n K.1 K.2.1 dX1_copyFrom_17 rfl (lv_at hl 1 rfl) ?_
  refine gD_17_2 K hw kf_X1_35 dX1_copyFrom_18 ?_
  refine pD_3_2 K hw kf_X1_35 dX1_copyFrom_21 (fun H locs hw => ?_)
  refine lv_aload_n K.1 K.2.1 dX1_copyFrom_24 rfl (lv_at hl 0 rfl) ?_
  refine lv_aload_n K.1 K.2.1 dX1_copyFrom_25 rfl (lv_at hl 1 rfl) ?_
  refine gD_17_3 K hw kf_X1_38 dX1_copyFrom_26 ?_
  refine pD_3_3 K hw kf_X1_38 dX1_copyFrom_29 (fun H locs hw => ?_)
  refine lv_aload_n K.1 K.2.1 dX1_copyFrom_32 rfl (lv_at hl 0 rfl) ?_
  refine lv_aload_n K.1 K.2.1 dX1_copyFrom_33 rfl (lv_at hl 1 rfl) ?_
  refine gD_17_4 K hw kf_X1_41 dX1_copyFrom_34 ?_
  refine pD_3_4 K hw kf_X1_41 dX1_copyFrom_37 (fun H locs hw => ?_)
  refine lv_aload_n K.1 K.2.1 dX1_copyFrom_40 rfl (lv_at hl 0 rfl) ?_
  refine lv_aload_n K.1 K.2.1 dX1_copyFrom_41 rfl (lv_at hl 1 rfl) ?_
  refine gD_17_5 K hw kf_X1_20 dX1_copyFrom_42 ?_
  refine pD_3_5 K hw kf_X1_20 dX1_copyFrom_45 (fun H locs hw => ?_)
  refine lv_aload_n K.1 K.2.1 dX1_copyFrom_48 rfl (lv_at hl 0 rfl) ?_
  refine lv_aload_n K.1 K.2.1 dX1_copyFrom_49 rfl (lv_at hl 1 rfl) ?_
  refine gD_17_6 K hw kf_X1_26 dX1_copyFrom_50 ?_
  refine pD_3_6 K hw kf_X1_26 dX1_copyFrom_53 (fun H locs hw => ?_)
  refine lv_aload_n K.1 K.2.1 dX1_copyFrom_56 rfl (lv_at hl 0 rfl) ?_
  refine lv_aload_n K.1 K.2.1 dX1_copyFrom_57 rfl (lv_at hl 1 rfl) ?_
  refine gD_17_7 K hw kf_X1_29 dX1_copyFrom_58 ?_
  refine pD_3_7 K hw kf_X1_29 dX1_copyFrom_61 (fun H locs hw => ?_)
  refine lv_aload_n K.1 K.2.1 dX1_copyFrom_64 rfl (lv_at hl 0 rfl) ?_
  refine lv_aload_n K.1 K.2.1 dX1_copyFrom_65 rfl (lv_at hl 1 rfl) ?_
  refine gD_17_8 K hw kf_X1_44 dX1_copyFrom_66 ?_
  refine pD_3_8 K hw (nzB (bxg_62 (σ := σ0) hI)) (fzB (bxg_62 (σ := σ0) hI)) kf_X1_44 dX1_copyFrom_69 (fun H locs hw => ?_)
  refine lv_aload_n K.1 K.2.1 dX1_copyFrom_72 rfl (lv_at hl 0 rfl) ?_
  refine lv_aload_n K.1 K.2.1 dX1_copyFrom_73 rfl (lv_at hl 1 rfl) ?_
  refine gD_17_9 K hw kf_X1_48 dX1_copyFrom_74 ?_
  refine pD_3_9 K hw (nzB (bxg_63 (σ := σ0) hI)) (fzB (bxg_63 (σ := σ0) hI)) kf_X1_48 dX1_copyFrom_77 (fun H locs hw => ?_)
  refine lv_aload_n K.1 K.2.1 dX1_copyFrom_80 rfl (lv_at hl 0 rfl) ?_
  refine lv_aload_n K.1 K.2.1 dX1_copyFrom_81 rfl (lv_at hl 1 rfl) ?_
  refine gD_17_10 K hw kf_X1_51 dX1_copyFrom_82 ?_
  refine pD_3_10 K hw kf_X1_51 dX1_copyFrom_85 (fun H locs hw => ?_)
  refine lv_aload_n K.1 K.2.1 dX1_copyFrom_88 rfl (lv_at hl 0 rfl) ?_
  refine lv_aload_n K.1 K.2.1 dX1_copyFrom_89 rfl (lv_at hl 1 rfl) ?_
  refine gD_17_11 K hw kf_X1_54 dX1_copyFrom_90 ?_
  refine pD_3_11 K hw kf_X1_54 dX1_copyFrom_93 (fun H locs hw => ?_)
  refine lv_aload_n K.1 K.2.1 dX1_copyFrom_96 rfl (lv_at hl 0 rfl) ?_
  refine lv_aload_n K.1 K.2.1 dX1_copyFrom_97 rfl (lv_at hl 1 rfl) ?_
  refine gD_17_12 K hw kf_X1_23 dX1_copyFrom_98 ?_
  refine pD_3_12 K hw kf_X1_23 dX1_copyFrom_101 (fun H locs hw => ?_)
  refine lv_aload_n K.1 K.2.1 dX1_copyFrom_104 rfl (lv_at hl 1 rfl) ?_
  refine gD_17_13 K hw kf_X1_9 dX1_copyFrom_105 ?_
  refine lv_iconst (v := 0) K.1 K.2.1 dX1_copyFrom_108 (by decide) ?_
  refine lv_aload_n K.1 K.2.1 dX1_copyFrom_109 rfl (lv_at hl 0 rfl) ?_
  refine gD_3_13 K hw kf_X1_9 dX1_copyFrom_110 ?_
  refine lv_iconst (v := 0) K.1 K.2.1 dX1_copyFrom_113 (by decide) ?_
  refine lv_bipush (v := 20) K.1 K.2.1 dX1_copyFrom_114 (by decide) ?_
  refine cpD_21_8 K hw km_X1_57 hl.1 (by decide) (Nat.le_of_ble_eq_true rfl) dX1_copyFrom_116 (fun H locs hw => ?_)
  refine lv_aload_n K.1 K.2.1 dX1_copyFrom_119 rfl (lv_at hl 1 rfl) ?_
  refine gD_17_14 K hw kf_X1_13 dX1_copyFrom_120 ?_
  refine lv_iconst (v := 0) K.1 K.2.1 dX1_copyFrom_123 (by decide) ?_
  refine lv_aload_n K.1 K.2.1 dX1_copyFrom_124 rfl (lv_at hl 0 rfl) ?_
  refine gD_3_14 K hw kf_X1_13 dX1_copyFrom_125 ?_
  refine lv_iconst (v := 0) K.1 K.2.1 dX1_copyFrom_128 (by decide) ?_
  refine lv_bipush (v := 20) K.1 K.2.1 dX1_copyFrom_129 (by decide) ?_
  refine cpD_22_9 K hw km_X1_57 hl.1 (by decide) (Nat.le_of_ble_eq_true rfl) dX1_copyFrom_131 (fun H locs hw => ?_)
  exact ret (congrArg (pdW a cA) (by exact rfl)) hw dX1_copyFrom_134
def f_X1_copyFrom_3_18 (σ0 : PS) : PS := (upR (upR (upS (upS (upS (upS (upS (upS (upS (upS (upS (upS (upS (upS (upS σ0 18 (σ0.1 67)) 19 (σ0.1 68)) 20 (σ0.1 69)) 21 (σ0.1 70)) 22 (σ0.1 71)) 23 (σ0.1 72)) 24 (σ0.1 73)) 25 (σ0.1 74)) 26 (σ0.1 75)) 27 (σ0.1 76)) 28 (σ0.1 77)) 29 (σ0.1 78)) 30 (σ0.1 79)) 1 (va_cpy (σ0.2.1 10) (σ0.2.1 1) 0 0 20)) 2 (va_cpy (σ0.2.1 11) (σ0.2.1 2) 0 0 20))
theorem bx_X1_copyFrom_3_18 {σ0 : PS} (hI : Bx σ0) : Bx (f_X1_copyFrom_3_18 σ0) := (bxR (bxR (bxQ_30 (bxQ_29 (bxS_28 (bxQ_27 (bxQ_26 (bxS_25 (bxS_24 (bxS_23 (bxS_22 (bxS_21 (bxS_20 (bxS_19 (bxS_18 hI)))))))) (bxg_75 (σ := σ0) hI).1 (bxg_75 (σ := σ0) hI).2) (bxg_76 (σ := σ0) hI).1 (bxg_76 (σ := σ0) hI).2)) (bxg_78 (σ := σ0) hI).1 (bxg_78 (σ := σ0) hI).2) (bxg_79 (σ := σ0) hI).1 (bxg_79 (σ := σ0) hI).2)))
abbrev rm_X1_copyFrom_3_18 : Room := { frames := 1, cells := 0, slots := 0, locals := 40 }
set_option maxHeartbeats 4000000 in
set_option maxRecDepth 100000 in
theorem c_X1_copyFrom_3_18 (l : Launch) (D : va_G) (a : Nat → Nat) (cA : Nat → ClassId) (σ0 : PS) (hI : Bx σ0) : CV l yX1_copyFrom cX1_copyFrom 2 rm_X1_copyFrom_3_18 D (pdT cA) [.ref (a 3), .ref (a 18)] (pdW a cA σ0) (pdW a cA (f_X1_copyFrom_3_18 σ0)) := by
  refine en_v (by decide +kernel) (Nat.le_of_ble_eq_true rfl) ?_
  intro p e s m args below meth c A ls Q K hw hl ret
  have hl : lv_has ls 2 [(0, .ref (a 3)), (1, .ref (a 18))] := hl
  refine lv_aload_n K.1 K.2.1 dX1_copyFrom_0 rfl (lv_at hl 0 rfl) ?_
  refine lv_aload_n K.1 K.2.1 dX1_copyFrom_1 rfl (lv_at hl 1 rfl) ?_
  refine gD_18_0 K hw kf_X1_16 dX1_copyFrom_2 ?_
  refine pD_3_0 K hw kf_X1_16 dX1_copyFrom_5 (fun H locs hw => ?_)
  refine lv_aload_n K.1 K.2.1 dX1_copyFrom_8 rfl (lv_at hl 0 rfl) ?_
  refine lv_aload_n K.1 K.2.1 dX1_copyFrom_9 rfl (lv_at hl 1 rfl) ?_
  refine gD_18_1 K hw kf_X1_32 dX1_copyFrom_10 ?_
  refine pD_3_1 K hw kf_X1_32 dX1_copyFrom_13 (fun H locs hw => ?_)
  refine lv_aload_n K.1 K.2.1 dX1_copyFrom_16 rfl (lv_at hl 0 rfl) ?_
  refine lv_aload_n K.1 K.2.1 dX1_copyFrom_17 rfl (lv_at hl 1 rfl) ?_
  refine gD_18_2 K hw kf_X1_35 dX1_copyFrom_18 ?_
  refine pD_3_2 K hw kf_X1_35 dX1_copyFrom_21 (fun H locs hw => ?_)
  refine lv_aload_n K.1 K.2.1 dX1_copyFrom_24 rfl (lv_at hl 0 rfl) ?_
  refine lv_aload_n K.1 K.2.1 dX1_copyFrom_25 rfl (lv_at hl 1 rfl) ?_
  refine gD_18_3 K hw kf_X1_38 dX1_copyFrom_26 ?_
  refine pD_3_3 K hw kf_X1_38 dX1_copyFrom_29 (fun H locs hw => ?_)
  refine lv_aload_n K.1 K.2.1 dX1_copyFrom_32 rfl (lv_at hl 0 rfl) ?_
  refine lv_aload_n K.1 K.2.1 dX1_copyFrom_33 rfl (lv_at hl 1 rfl) ?_
  refine gD_18_4 K hw kf_X1_41 dX1_copyFrom_34 ?_
  refine pD_3_4 K hw kf_X1_41 dX1_copyFrom_37 (fun H locs hw => ?_)
  refine lv_aload_n K.1 K.2.1 dX1_copyFrom_40 rfl (lv_at hl 0 rfl) ?_
  refine lv_aload_n K.1 K.2.1 dX1_copyFrom_41 rfl (lv_at hl 1 rfl) ?_
  refine gD_18_5 K hw kf_X1_20 dX1_copyFrom_42 ?_
  refine pD_3_5 K hw kf_X1_20 dX1_copyFrom_45 (fun H locs hw => ?_)
  refine lv_aload_n K.1 K.2.1 dX1_copyFrom_48 rfl (lv_at hl 0 rfl) ?_
  refine lv_aload_n K.1 K.2.1 dX1_copyFrom_49 rfl (lv_at hl 1 rfl) ?_
  refine gD_18_6 K hw kf_X1_26 dX1_copyFrom_50 ?_
  refine pD_3_6 K hw kf_X1_26 dX1_copyFrom_53 (fun H locs hw => ?_)
  refine lv_aload_n K.1 K.2.1 dX1_copyFrom_56 rfl (lv_at hl 0 rfl) ?_
  refine lv_aload_n K.1 K.2.1 dX1_copyFrom_57 rfl (lv_at hl 1 rfl) ?_
  refine gD_18_7 K hw kf_X1_29 dX1_copyFrom_58 ?_
  refine pD_3_7 K hw kf_X1_29 dX1_copyFrom_61 (fun H locs hw => ?_)
  refine lv_aload_n K.1 K.2.1 dX1_copyFrom_64 rfl (lv_at hl 0 rfl) ?_
  refine lv_aload_n K.1 K.2.1 dX1_copyFrom_65 rfl (lv_at hl 1 rfl) ?_
  refine gD_18_8 K hw kf_X1_44 dX1_copyFrom_66 ?_
  refine pD_3_8 K hw (nzB (bxg_75 (σ := σ0) hI)) (fzB (bxg_75 (σ := σ0) hI)) kf_X1_44 dX1_copyFrom_69 (fun H locs hw => ?_)
  refine lv_aload_n K.1 K.2.1 dX1_copyFrom_72 rfl (lv_at hl 0 rfl) ?_
  refine lv_aload_n K.1 K.2.1 dX1_copyFrom_73 rfl (lv_at hl 1 rfl) ?_
  refine gD_18_9 K hw kf_X1_48 dX1_copyFrom_74 ?_
  refine pD_3_9 K hw (nzB (bxg_76 (σ := σ0) hI)) (fzB (bxg_76 (σ := σ0) hI)) kf_X1_48 dX1_copyFrom_77 (fun H locs hw => ?_)
  refine lv_aload_n K.1 K.2.1 dX1_copyFrom_80 rfl (lv_at hl 0 rfl) ?_
  refine lv_aload_n K.1 K.2.1 dX1_copyFrom_81 rfl (lv_at hl 1 rfl) ?_
  refine gD_18_10 K hw kf_X1_51 dX1_copyFrom_82 ?_
  refine pD_3_10 K hw kf_X1_51 dX1_copyFrom_85 (fun H locs hw => ?_)
  refine lv_aload_n K.1 K.2.1 dX1_copyFrom_88 rfl (lv_at hl 0 rfl) ?_
  refine lv_aload_n K.1 K.2.1 dX1_copyFrom_89 rfl (lv_at hl 1 rfl) ?_
  refine gD_18_11 K hw kf_X1_54 dX1_copyFrom_90 ?_
  refine pD_3_11 K hw kf_X1_54 dX1_copyFrom_93 (fun H locs hw => ?_)
  refine lv_aload_n K.1 K.2.1 dX1_copyFrom_96 rfl (lv_at hl 0 rfl) ?_
  refine lv_aload_n K.1 K.2.1 dX1_copyFrom_97 rfl (lv_at hl 1 rfl) ?_
  refine gD_18_12 K hw kf_X1_23 dX1_copyFrom_98 ?_
  refine pD_3_12 K hw kf_X1_23 dX1_copyFrom_101 (fun H locs hw => ?_)
  refine lv_aload_n K.1 K.2.1 dX1_copyFrom_104 rfl (lv_at hl 1 rfl) ?_
  refine gD_18_13 K hw kf_X1_9 dX1_copyFrom_105 ?_
  refine lv_iconst (v := 0) K.1 K.2.1 dX1_copyFrom_108 (by decide) ?_
  refine lv_aload_n K.1 K.2.1 dX1_copyFrom_109 rfl (lv_at hl 0 rfl) ?_
  refine gD_3_13 K hw kf_X1_9 dX1_copyFrom_110 ?_
  refine lv_iconst (v := 0) K.1 K.2.1 dX1_copyFrom_113 (by decide) ?_
  refine lv_bipush (v := 20) K.1 K.2.1 dX1_copyFrom_114 (by decide) ?_
  refine cpD_23_8 K hw km_X1_57 hl.1 (by decide) (Nat.le_of_ble_eq_true rfl) dX1_copyFrom_116 (fun H locs hw => ?_)
  refine lv_aload_n K.1 K.2.1 dX1_copyFrom_119 rfl (lv_at hl 1 rfl) ?_
  refine gD_18_14 K hw kf_X1_13 dX1_copyFrom_120 ?_
  refine lv_iconst (v := 0) K.1 K.2.1 dX1_copyFrom_123 (by decide) ?_
  refine lv_aload_n K.1 K.2.1 dX1_copyFrom_124 rfl (lv_at hl 0 rfl) ?_
  refine gD_3_14 K hw kf_X1_13 dX1_copyFrom_125 ?_
  refine lv_iconst (v := 0) K.1 K.2.1 dX1_copyFrom_128 (by decide) ?_
  refine lv_bipush (v := 20) K.1 K.2.1 dX1_copyFrom_129 (by decide) ?_
  refine cpD_24_9 K hw km_X1_57 hl.1 (by decide) (Nat.le_of_ble_eq_true rfl) dX1_copyFrom_131 (fun H locs hw => ?_)
  exact ret (congrArg (pdW a cA) (by exact rfl)) hw dX1_copyFrom_134
def f_X7_keep (σ0 : PS) (x1 : Int32) : PS × Int32 := (if x1 < 0 then (σ0, 0) else (if x1 < 3 then (if x1 = 0 then let s21 : PS := f_X1_copyFrom_16_3 σ0; ((upA s21 3 (Int32.toNatClampNeg x1) (vp_nar .boolean 1)), 1) else (if x1 = 1 then let s21 : PS := f_X1_copyFrom_17_3 σ0; ((upA s21 3 (Int32.toNatClampNeg x1) (vp_nar .boolean 1)), 1) else let s21 : PS := f_X1_copyFrom_18_3 σ0; ((upA s21 3 (Int32.toNatClampNeg x1) (vp_nar .boolean 1)), 1))) else (σ0, 0)))
theorem bx_X7_keep {σ0 : PS} {x1 : Int32} (hI : Bx σ0) : Bx (f_X7_keep σ0 x1).1 := (bxI2 (fun c1 => hI) (fun c1 => (bxI2 (fun c6 => (bxI2 (fun c16_0 => (bxA (bx_X1_copyFrom_16_3 hI))) (fun c16_0 => (bxI2 (fun c16_1 => (bxA (bx_X1_copyFrom_17_3 hI))) (fun c16_1 => (bxA (bx_X1_copyFrom_18_3 hI))))))) (fun c6 => hI))))
abbrev rm_X7_keep : Room := { frames := 2, cells := 0, slots := 0, locals := 61 }
theorem nz_X7_keep {σ0 : PS} {x1 : Int32} : NZ (f_X7_keep σ0 x1).2 := (nzI2 nz0 (nzI2 (nzI2 nz1 (nzI2 nz1 nz1)) nz0))
set_option maxHeartbeats 4000000 in
set_option maxRecDepth 100000 in
theorem c_X7_keep (l : Launch) (D : va_G) (a : Nat → Nat) (cA : Nat → ClassId) (σ0 : PS) (x1 : Int32) (hI : Bx σ0) : CI l yX7_keep cX7_keep 2 .boolean rm_X7_keep D (pdT cA) [.ref (a 0), .int x1] (pdW a cA σ0) (pdW a cA (f_X7_keep σ0 x1).1) (f_X7_keep σ0 x1).2 := by
  refine en_i (by decide +kernel) (Nat.le_of_ble_eq_true rfl) nz_X7_keep ?_
  intro p e s m args below meth c A ls Q K hw hl ret
  have hl : lv_has ls 2 [(0, .ref (a 0)), (1, .int x1)] := hl
  refine lv_iload_n K.1 K.2.1 dX7_keep_0 rfl (lv_at hl 1 rfl) ?_
  refine lv_if_lt (tgt := 9) K.1 K.2.1 dX7_keep_1 (by decide) (fun c1 => ?_) (fun c1 => ?_)
  · refine lv_iconst (v := 0) K.1 K.2.1 dX7_keep_9 (by decide) ?_
    have eq9 : f_X7_keep σ0 x1 = (σ0, 0) := (by exact (Eq.trans (if_pos c1) rfl))
    exact ret (congrArg (fun z => pdW a cA z.1) eq9) (congrArg (fun z => z.2) eq9) hw dX7_keep_10
  · refine lv_iload_n K.1 K.2.1 dX7_keep_4 rfl (lv_at hl 1 rfl) ?_
    refine lv_iconst (v := 3) K.1 K.2.1 dX7_keep_5 (by decide) ?_
    refine lv_icmp_lt (tgt := 11) K.1 K.2.1 dX7_keep_6 (by decide) (fun c6 => ?_) (fun c6 => ?_)
    · refine lv_aload_n K.1 K.2.1 dX7_keep_11 rfl (lv_at hl 0 rfl) ?_
      refine gD_0_3 K hw kf_X7_30 dX7_keep_12 ?_
      refine lv_iload_n K.1 K.2.1 dX7_keep_15 rfl (lv_at hl 1 rfl) ?_
      by_cases c16_0 : x1 = 0
      · refine lD_14q (q := 16) K hw (vB2 3 (lt3 c1 c6) (by decide)) (by rw [c16_0]; decide) dX7_keep_16 ?_
        refine lv_aload_n K.1 K.2.1 dX7_keep_17 rfl (lv_at hl 0 rfl) ?_
        refine gD_0_2 K hw kf_X7_26 dX7_keep_18 ?_
        refine caV K hw (c_X1_copyFrom_16_3 l D a cA _ hI) hl.1 (tt_V km_X7_87 kI_X1_copyFrom ks_X1_copyFrom ki_X1 kC_X1_copyFrom) 16 (ci := 1) rfl rfl rfl (na := 1) rfl (by decide +kernel) ⟨rfl, rfl⟩ (by decide) ⟨Nat.zero_le _, Nat.zero_le _⟩ rfl (Nat.le_of_ble_eq_true rfl) dX7_keep_21 (fun H locs hw => ?_)
        obtain ⟨s21, es21, hw⟩ := nmD hw
        have hI21 : Bx s21 := by rw [es21]; exact bx_X1_copyFrom_16_3 hI
        refine lv_aload_n K.1 K.2.1 dX7_keep_24 rfl (lv_at hl 0 rfl) ?_
        refine gD_0_4 K hw kf_X7_34 dX7_keep_25 ?_
        refine lv_iload_n K.1 K.2.1 dX7_keep_28 rfl (lv_at hl 1 rfl) ?_
        refine lv_iconst (v := 1) K.1 K.2.1 dX7_keep_29 (by decide) ?_
        refine sD_10 K hw (vB2 3 (lt3 c1 c6) (by decide)) rfl dX7_keep_30 (fun H locs hw => ?_)
        refine lv_iconst (v := 1) K.1 K.2.1 dX7_keep_31 (by decide) ?_
        have eq9 : f_X7_keep σ0 x1 = ((upA s21 3 (Int32.toNatClampNeg x1) (vp_nar .boolean 1)), 1) := (by subst es21; exact (Eq.trans (if_neg c1) (Eq.trans (if_pos c6) (Eq.trans (if_pos c16_0) rfl))))
        exact ret (congrArg (fun z => pdW a cA z.1) eq9) (congrArg (fun z => z.2) eq9) hw dX7_keep_32
      · by_cases c16_1 : x1 = 1
        · refine lD_14q (q := 17) K hw (vB2 3 (lt3 c1 c6) (by decide)) (by rw [c16_1]; decide) dX7_keep_16 ?_
          refine lv_aload_n K.1 K.2.1 dX7_keep_17 rfl (lv_at hl 0 rfl) ?_
          refine gD_0_2 K hw kf_X7_26 dX7_keep_18 ?_
          refine caV K hw (c_X1_copyFrom_17_3 l D a cA _ hI) hl.1 (tt_V km_X7_87 kI_X1_copyFrom ks_X1_copyFrom ki_X1 kC_X1_copyFrom) 17 (ci := 1) rfl rfl rfl (na := 1) rfl (by decide +kernel) ⟨rfl, rfl⟩ (by decide) ⟨Nat.zero_le _, Nat.zero_le _⟩ rfl (Nat.le_of_ble_eq_true rfl) dX7_keep_21 (fun H locs hw => ?_)
          obtain ⟨s21, es21, hw⟩ := nmD hw
          have hI21 : Bx s21 := by rw [es21]; exact bx_X1_copyFrom_17_3 hI
          refine lv_aload_n K.1 K.2.1 dX7_keep_24 rfl (lv_at hl 0 rfl) ?_
          refine gD_0_4 K hw kf_X7_34 dX7_keep_25 ?_
          refine lv_iload_n K.1 K.2.1 dX7_keep_28 rfl (lv_at hl 1 rfl) ?_
          refine lv_iconst (v := 1) K.1 K.2.1 dX7_keep_29 (by decide) ?_
          refine sD_10 K hw (vB2 3 (lt3 c1 c6) (by decide)) rfl dX7_keep_30 (fun H locs hw => ?_)
          refine lv_iconst (v := 1) K.1 K.2.1 dX7_keep_31 (by decide) ?_
          have eq9 : f_X7_keep σ0 x1 = ((upA s21 3 (Int32.toNatClampNeg x1) (vp_nar .boolean 1)), 1) := (by subst es21; exact (Eq.trans (if_neg c1) (Eq.trans (if_pos c6) (Eq.trans (if_neg c16_0) (Eq.trans (if_pos c16_1) rfl)))))
          exact ret (congrArg (fun z => pdW a cA z.1) eq9) (congrArg (fun z => z.2) eq9) hw dX7_keep_32
        · have c16_2 : x1 = 2 := (two3 c1 c6 c16_0 c16_1)
          refine lD_14q (q := 18) K hw (vB2 3 (lt3 c1 c6) (by decide)) (by rw [c16_2]; decide) dX7_keep_16 ?_
          refine lv_aload_n K.1 K.2.1 dX7_keep_17 rfl (lv_at hl 0 rfl) ?_
          refine gD_0_2 K hw kf_X7_26 dX7_keep_18 ?_
          refine caV K hw (c_X1_copyFrom_18_3 l D a cA _ hI) hl.1 (tt_V km_X7_87 kI_X1_copyFrom ks_X1_copyFrom ki_X1 kC_X1_copyFrom) 18 (ci := 1) rfl rfl rfl (na := 1) rfl (by decide +kernel) ⟨rfl, rfl⟩ (by decide) ⟨Nat.zero_le _, Nat.zero_le _⟩ rfl (Nat.le_of_ble_eq_true rfl) dX7_keep_21 (fun H locs hw => ?_)
          obtain ⟨s21, es21, hw⟩ := nmD hw
          have hI21 : Bx s21 := by rw [es21]; exact bx_X1_copyFrom_18_3 hI
          refine lv_aload_n K.1 K.2.1 dX7_keep_24 rfl (lv_at hl 0 rfl) ?_
          refine gD_0_4 K hw kf_X7_34 dX7_keep_25 ?_
          refine lv_iload_n K.1 K.2.1 dX7_keep_28 rfl (lv_at hl 1 rfl) ?_
          refine lv_iconst (v := 1) K.1 K.2.1 dX7_keep_29 (by decide) ?_
          refine sD_10 K hw (vB2 3 (lt3 c1 c6) (by decide)) rfl dX7_keep_30 (fun H locs hw => ?_)
          refine lv_iconst (v := 1) K.1 K.2.1 dX7_keep_31 (by decide) ?_
          have eq9 : f_X7_keep σ0 x1 = ((upA s21 3 (Int32.toNatClampNeg x1) (vp_nar .boolean 1)), 1) := (by subst es21; exact (Eq.trans (if_neg c1) (Eq.trans (if_pos c6) (Eq.trans (if_neg c16_0) (Eq.trans (if_neg c16_1) rfl)))))
          exact ret (congrArg (fun z => pdW a cA z.1) eq9) (congrArg (fun z => z.2) eq9) hw dX7_keep_32
    · refine lv_iconst (v := 0) K.1 K.2.1 dX7_keep_9 (by decide) ?_
      have eq9 : f_X7_keep σ0 x1 = (σ0, 0) := (by exact (Eq.trans (if_neg c1) (Eq.trans (if_neg c6) rfl)))
      exact ret (congrArg (fun z => pdW a cA z.1) eq9) (congrArg (fun z => z.2) eq9) hw dX7_keep_10
def f_X7_bring (σ0 : PS) (x1 : Int32) : PS × Int32 := (if x1 < 0 then (σ0, 0) else (if 3 ≤ x1 then (σ0, 0) else (if (σ0.2.1 3 (Int32.toNatClampNeg x1)) = 0 then (σ0, 0) else (if x1 = 0 then let s30 : PS := f_X1_copyFrom_3_16 σ0; let s94 : PS := f_X7_setX (upS (upS s30 20 (f_X7_within (Int32.toInt64 (s30.1 20)) 0 (s30.1 16))) 21 (f_X7_within (Int32.toInt64 (s30.1 21)) 0 (s30.1 16))) (Int32.toInt64 (s30.1 24)); let s106 : PS := f_X7_setY s94 (Int32.toInt64 (s94.1 25)); (s106, 1) else (if x1 = 1 then let s30 : PS := f_X1_copyFrom_3_17 σ0; let s94 : PS := f_X7_setX (upS (upS s30 20 (f_X7_within (Int32.toInt64 (s30.1 20)) 0 (s30.1 16))) 21 (f_X7_within (Int32.toInt64 (s30.1 21)) 0 (s30.1 16))) (Int32.toInt64 (s30.1 24)); let s106 : PS := f_X7_setY s94 (Int32.toInt64 (s94.1 25)); (s106, 1) else let s30 : PS := f_X1_copyFrom_3_18 σ0; let s94 : PS := f_X7_setX (upS (upS s30 20 (f_X7_within (Int32.toInt64 (s30.1 20)) 0 (s30.1 16))) 21 (f_X7_within (Int32.toInt64 (s30.1 21)) 0 (s30.1 16))) (Int32.toInt64 (s30.1 24)); let s106 : PS := f_X7_setY s94 (Int32.toInt64 (s94.1 25)); (s106, 1))))))
theorem bx_X7_bring {σ0 : PS} {x1 : Int32} (hI : Bx σ0) : Bx (f_X7_bring σ0 x1).1 := (bxI2 (fun c1 => hI) (fun c1 => (bxI2 (fun c6 => hI) (fun c6 => (bxI2 (fun c15 => hI) (fun c15 => (bxI2 (fun c29_0 => (bx_X7_setY (bx_X7_setX (bxS_21 (bxS_20 (bx_X1_copyFrom_3_16 hI)))))) (fun c29_0 => (bxI2 (fun c29_1 => (bx_X7_setY (bx_X7_setX (bxS_21 (bxS_20 (bx_X1_copyFrom_3_17 hI)))))) (fun c29_1 => (bx_X7_setY (bx_X7_setX (bxS_21 (bxS_20 (bx_X1_copyFrom_3_18 hI)))))))))))))))
abbrev rm_X7_bring : Room := { frames := 2, cells := 0, slots := 0, locals := 61 }
theorem nz_X7_bring {σ0 : PS} {x1 : Int32} : NZ (f_X7_bring σ0 x1).2 := (nzI2 nz0 (nzI2 nz0 (nzI2 nz0 (nzI2 nz1 (nzI2 nz1 nz1)))))
set_option maxHeartbeats 4000000 in
set_option maxRecDepth 100000 in
theorem c_X7_bring (l : Launch) (D : va_G) (a : Nat → Nat) (cA : Nat → ClassId) (σ0 : PS) (x1 : Int32) (hI : Bx σ0) : CI l yX7_bring cX7_bring 2 .boolean rm_X7_bring D (pdT cA) [.ref (a 0), .int x1] (pdW a cA σ0) (pdW a cA (f_X7_bring σ0 x1).1) (f_X7_bring σ0 x1).2 := by
  refine en_i (by decide +kernel) (Nat.le_of_ble_eq_true rfl) nz_X7_bring ?_
  intro p e s m args below meth c A ls Q K hw hl ret
  have hl : lv_has ls 2 [(0, .ref (a 0)), (1, .int x1)] := hl
  refine lv_iload_n K.1 K.2.1 dX7_bring_0 rfl (lv_at hl 1 rfl) ?_
  refine lv_if_lt (tgt := 18) K.1 K.2.1 dX7_bring_1 (by decide) (fun c1 => ?_) (fun c1 => ?_)
  · refine lv_iconst (v := 0) K.1 K.2.1 dX7_bring_18 (by decide) ?_
    have eq9 : f_X7_bring σ0 x1 = (σ0, 0) := (by exact (Eq.trans (if_pos c1) rfl))
    exact ret (congrArg (fun z => pdW a cA z.1) eq9) (congrArg (fun z => z.2) eq9) hw dX7_bring_19
  · refine lv_iload_n K.1 K.2.1 dX7_bring_4 rfl (lv_at hl 1 rfl) ?_
    refine lv_iconst (v := 3) K.1 K.2.1 dX7_bring_5 (by decide) ?_
    refine lv_icmp_ge (tgt := 18) K.1 K.2.1 dX7_bring_6 (by decide) (fun c6 => ?_) (fun c6 => ?_)
    · refine lv_iconst (v := 0) K.1 K.2.1 dX7_bring_18 (by decide) ?_
      have eq9 : f_X7_bring σ0 x1 = (σ0, 0) := (by exact (Eq.trans (if_neg c1) (Eq.trans (if_pos c6) rfl)))
      exact ret (congrArg (fun z => pdW a cA z.1) eq9) (congrArg (fun z => z.2) eq9) hw dX7_bring_19
    · refine lv_aload_n K.1 K.2.1 dX7_bring_9 rfl (lv_at hl 0 rfl) ?_
      refine gD_0_4 K hw kf_X7_34 dX7_bring_10 ?_
      refine lv_iload_n K.1 K.2.1 dX7_bring_13 rfl (lv_at hl 1 rfl) ?_
      refine lD_10 K hw (vB2 3 (rg2 c1 c6 (b := 2) rfl) (by decide)) rfl dX7_bring_14 ?_
      refine lv_if_ne (tgt := 20) K.1 K.2.1 dX7_bring_15 (by decide) (fun c15 => ?_) (fun c15 => ?_)
      · refine lv_aload_n K.1 K.2.1 dX7_bring_20 rfl (lv_at hl 0 rfl) ?_
        refine gD_0_2 K hw kf_X7_26 dX7_bring_21 ?_
        refine lv_aload_n K.1 K.2.1 dX7_bring_24 rfl (lv_at hl 0 rfl) ?_
        refine gD_0_3 K hw kf_X7_30 dX7_bring_25 ?_
        refine lv_iload_n K.1 K.2.1 dX7_bring_28 rfl (lv_at hl 1 rfl) ?_
        by_cases c29_0 : x1 = 0
        · refine lD_14q (q := 16) K hw (vB2 3 (rg2 c1 c6 (b := 2) rfl) (by decide)) (by rw [c29_0]; decide) dX7_bring_29 ?_
          refine caV K hw (c_X1_copyFrom_3_16 l D a cA _ hI) hl.1 (tt_V km_X7_87 kI_X1_copyFrom ks_X1_copyFrom ki_X1 kC_X1_copyFrom) 3 (ci := 1) rfl rfl rfl (na := 1) rfl (by decide +kernel) ⟨rfl, rfl⟩ (by decide) ⟨Nat.zero_le _, Nat.zero_le _⟩ rfl (Nat.le_of_ble_eq_true rfl) dX7_bring_30 (fun H locs hw => ?_)
          obtain ⟨s30, es30, hw⟩ := nmD hw
          have hI30 : Bx s30 := by rw [es30]; exact bx_X1_copyFrom_3_16 hI
          refine lv_aload_n K.1 K.2.1 dX7_bring_33 rfl (lv_at hl 0 rfl) ?_
          refine gD_0_2 K hw kf_X7_26 dX7_bring_34 ?_
          refine lv_aload_n K.1 K.2.1 dX7_bring_37 rfl (lv_at hl 0 rfl) ?_
          refine gD_0_2 K hw kf_X7_26 dX7_bring_38 ?_
          refine gD_3_2 K hw kf_X7_91 dX7_bring_41 ?_
          refine lv_i2l K.1 K.2.1 dX7_bring_44 rfl ?_
          refine lv_iconst (v := 0) K.1 K.2.1 dX7_bring_45 (by decide) ?_
          refine lv_aload_n K.1 K.2.1 dX7_bring_46 rfl (lv_at hl 0 rfl) ?_
          refine gD_0_1 K hw kf_X7_19 dX7_bring_47 ?_
          refine gD_2_3 K hw kf_X7_95 dX7_bring_50 ?_
          refine caS K hw (c_X7_within l D a cA _ _ _ _) hl.1 km_X7_98 kS_X7_within ki_X7 kC_X7_within (na := 3) rfl (by decide +kernel) ⟨rfl, rfl⟩ (by decide) ⟨Nat.zero_le _, Nat.zero_le _⟩ rfl (Nat.le_of_ble_eq_true rfl) dX7_bring_53 (fun H locs hw => ?_)
          refine pD_3_2 K hw kf_X7_91 dX7_bring_56 (fun H locs hw => ?_)
          refine lv_aload_n K.1 K.2.1 dX7_bring_59 rfl (lv_at hl 0 rfl) ?_
          refine gD_0_2 K hw kf_X7_26 dX7_bring_60 ?_
          refine lv_aload_n K.1 K.2.1 dX7_bring_63 rfl (lv_at hl 0 rfl) ?_
          refine gD_0_2 K hw kf_X7_26 dX7_bring_64 ?_
          refine gD_3_3 K hw kf_X7_102 dX7_bring_67 ?_
          refine lv_i2l K.1 K.2.1 dX7_bring_70 rfl ?_
          refine lv_iconst (v := 0) K.1 K.2.1 dX7_bring_71 (by decide) ?_
          refine lv_aload_n K.1 K.2.1 dX7_bring_72 rfl (lv_at hl 0 rfl) ?_
          refine gD_0_1 K hw kf_X7_19 dX7_bring_73 ?_
          refine gD_2_3 K hw kf_X7_95 dX7_bring_76 ?_
          refine caS K hw (c_X7_within l D a cA _ _ _ _) hl.1 km_X7_98 kS_X7_within ki_X7 kC_X7_within (na := 3) rfl (by decide +kernel) ⟨rfl, rfl⟩ (by decide) ⟨Nat.zero_le _, Nat.zero_le _⟩ rfl (Nat.le_of_ble_eq_true rfl) dX7_bring_79 (fun H locs hw => ?_)
          refine pD_3_3 K hw kf_X7_102 dX7_bring_82 (fun H locs hw => ?_)
          refine lv_aload_n K.1 K.2.1 dX7_bring_85 rfl (lv_at hl 0 rfl) ?_
          refine lv_aload_n K.1 K.2.1 dX7_bring_86 rfl (lv_at hl 0 rfl) ?_
          refine gD_0_2 K hw kf_X7_26 dX7_bring_87 ?_
          refine gD_3_6 K hw kf_X7_105 dX7_bring_90 ?_
          refine lv_i2l K.1 K.2.1 dX7_bring_93 rfl ?_
          refine caV K hw (c_X7_setX l D a cA _ _) hl.1 (tt_V km_X7_80 kI_X7_setX ks_X7_setX ki_X7 kC_X7_setX) 0 (ci := 7) rfl rfl rfl (na := 1) rfl (by decide +kernel) ⟨rfl, rfl⟩ (by decide) ⟨Nat.zero_le _, Nat.zero_le _⟩ rfl (Nat.le_of_ble_eq_true rfl) dX7_bring_94 (fun H locs hw => ?_)
          obtain ⟨s94, es94, hw⟩ := nmD hw
          have hI94 : Bx s94 := by rw [es94]; exact bx_X7_setX (bxS_21 (bxS_20 hI30))
          refine lv_aload_n K.1 K.2.1 dX7_bring_97 rfl (lv_at hl 0 rfl) ?_
          refine lv_aload_n K.1 K.2.1 dX7_bring_98 rfl (lv_at hl 0 rfl) ?_
          refine gD_0_2 K hw kf_X7_26 dX7_bring_99 ?_
          refine gD_3_7 K hw kf_X7_108 dX7_bring_102 ?_
          refine lv_i2l K.1 K.2.1 dX7_bring_105 rfl ?_
          refine caV K hw (c_X7_setY l D a cA _ _) hl.1 (tt_V km_X7_84 kI_X7_setY ks_X7_setY ki_X7 kC_X7_setY) 0 (ci := 7) rfl rfl rfl (na := 1) rfl (by decide +kernel) ⟨rfl, rfl⟩ (by decide) ⟨Nat.zero_le _, Nat.zero_le _⟩ rfl (Nat.le_of_ble_eq_true rfl) dX7_bring_106 (fun H locs hw => ?_)
          obtain ⟨s106, es106, hw⟩ := nmD hw
          have hI106 : Bx s106 := by rw [es106]; exact bx_X7_setY hI94
          refine lv_iconst (v := 1) K.1 K.2.1 dX7_bring_109 (by decide) ?_
          have eq9 : f_X7_bring σ0 x1 = (s106, 1) := (by subst es106 es94 es30; exact (Eq.trans (if_neg c1) (Eq.trans (if_neg c6) (Eq.trans (if_neg c15) (Eq.trans (if_pos c29_0) rfl)))))
          exact ret (congrArg (fun z => pdW a cA z.1) eq9) (congrArg (fun z => z.2) eq9) hw dX7_bring_110
        · by_cases c29_1 : x1 = 1
          · refine lD_14q (q := 17) K hw (vB2 3 (rg2 c1 c6 (b := 2) rfl) (by decide)) (by rw [c29_1]; decide) dX7_bring_29 ?_
            refine caV K hw (c_X1_copyFrom_3_17 l D a cA _ hI) hl.1 (tt_V km_X7_87 kI_X1_copyFrom ks_X1_copyFrom ki_X1 kC_X1_copyFrom) 3 (ci := 1) rfl rfl rfl (na := 1) rfl (by decide +kernel) ⟨rfl, rfl⟩ (by decide) ⟨Nat.zero_le _, Nat.zero_le _⟩ rfl (Nat.le_of_ble_eq_true rfl) dX7_bring_30 (fun H locs hw => ?_)
            obtain ⟨s30, es30, hw⟩ := nmD hw
            have hI30 : Bx s30 := by rw [es30]; exact bx_X1_copyFrom_3_17 hI
            refine lv_aload_n K.1 K.2.1 dX7_bring_33 rfl (lv_at hl 0 rfl) ?_
            refine gD_0_2 K hw kf_X7_26 dX7_bring_34 ?_
            refine lv_aload_n K.1 K.2.1 dX7_bring_37 rfl (lv_at hl 0 rfl) ?_
            refine gD_0_2 K hw kf_X7_26 dX7_bring_38 ?_
            refine gD_3_2 K hw kf_X7_91 dX7_bring_41 ?_
            refine lv_i2l K.1 K.2.1 dX7_bring_44 rfl ?_
            refine lv_iconst (v := 0) K.1 K.2.1 dX7_bring_45 (by decide) ?_
            refine lv_aload_n K.1 K.2.1 dX7_bring_46 rfl (lv_at hl 0 rfl) ?_
            refine gD_0_1 K hw kf_X7_19 dX7_bring_47 ?_
            refine gD_2_3 K hw kf_X7_95 dX7_bring_50 ?_
            refine caS K hw (c_X7_within l D a cA _ _ _ _) hl.1 km_X7_98 kS_X7_within ki_X7 kC_X7_within (na := 3) rfl (by decide +kernel) ⟨rfl, rfl⟩ (by decide) ⟨Nat.zero_le _, Nat.zero_le _⟩ rfl (Nat.le_of_ble_eq_true rfl) dX7_bring_53 (fun H locs hw => ?_)
            refine pD_3_2 K hw kf_X7_91 dX7_bring_56 (fun H locs hw => ?_)
            refine lv_aload_n K.1 K.2.1 dX7_bring_59 rfl (lv_at hl 0 rfl) ?_
            refine gD_0_2 K hw kf_X7_26 dX7_bring_60 ?_
            refine lv_aload_n K.1 K.2.1 dX7_bring_63 rfl (lv_at hl 0 rfl) ?_
            refine gD_0_2 K hw kf_X7_26 dX7_bring_64 ?_
            refine gD_3_3 K hw kf_X7_102 dX7_bring_67 ?_
            refine lv_i2l K.1 K.2.1 dX7_bring_70 rfl ?_
            refine lv_iconst (v := 0) K.1 K.2.1 dX7_bring_71 (by decide) ?_
            refine lv_aload_n K.1 K.2.1 dX7_bring_72 rfl (lv_at hl 0 rfl) ?_
            refine gD_0_1 K hw kf_X7_19 dX7_bring_73 ?_
            refine gD_2_3 K hw kf_X7_95 dX7_bring_76 ?_
            refine caS K hw (c_X7_within l D a cA _ _ _ _) hl.1 km_X7_98 kS_X7_within ki_X7 kC_X7_within (na := 3) rfl (by decide +kernel) ⟨rfl, rfl⟩ (by decide) ⟨Nat.zero_le _, Nat.zero_le _⟩ rfl (Nat.le_of_ble_eq_true rfl) dX7_bring_79 (fun H locs hw => ?_)
            refine pD_3_3 K hw kf_X7_102 dX7_bring_82 (fun H locs hw => ?_)
            refine lv_aload_n K.1 K.2.1 dX7_bring_85 rfl (lv_at hl 0 rfl) ?_
            refine lv_aload_n K.1 K.2.1 dX7_bring_86 rfl (lv_at hl 0 rfl) ?_
            refine gD_0_2 K hw kf_X7_26 dX7_bring_87 ?_
            refine gD_3_6 K hw kf_X7_105 dX7_bring_90 ?_
            refine lv_i2l K.1 K.2.1 dX7_bring_93 rfl ?_
            refine caV K hw (c_X7_setX l D a cA _ _) hl.1 (tt_V km_X7_80 kI_X7_setX ks_X7_setX ki_X7 kC_X7_setX) 0 (ci := 7) rfl rfl rfl (na := 1) rfl (by decide +kernel) ⟨rfl, rfl⟩ (by decide) ⟨Nat.zero_le _, Nat.zero_le _⟩ rfl (Nat.le_of_ble_eq_true rfl) dX7_bring_94 (fun H locs hw => ?_)
            obtain ⟨s94, es94, hw⟩ := nmD hw
            have hI94 : Bx s94 := by rw [es94]; exact bx_X7_setX (bxS_21 (bxS_20 hI30))
            refine lv_aload_n K.1 K.2.1 dX7_bring_97 rfl (lv_at hl 0 rfl) ?_
            refine lv_aload_n K.1 K.2.1 dX7_bring_98 rfl (lv_at hl 0 rfl) ?_
            refine gD_0_2 K hw kf_X7_26 dX7_bring_99 ?_
            refine gD_3_7 K hw kf_X7_108 dX7_bring_102 ?_
            refine lv_i2l K.1 K.2.1 dX7_bring_105 rfl ?_
            refine caV K hw (c_X7_setY l D a cA _ _) hl.1 (tt_V km_X7_84 kI_X7_setY ks_X7_setY ki_X7 kC_X7_setY) 0 (ci := 7) rfl rfl rfl (na := 1) rfl (by decide +kernel) ⟨rfl, rfl⟩ (by decide) ⟨Nat.zero_le _, Nat.zero_le _⟩ rfl (Nat.le_of_ble_eq_true rfl) dX7_bring_106 (fun H locs hw => ?_)
            obtain ⟨s106, es106, hw⟩ := nmD hw
            have hI106 : Bx s106 := by rw [es106]; exact bx_X7_setY hI94
            refine lv_iconst (v := 1) K.1 K.2.1 dX7_bring_109 (by decide) ?_
            have eq9 : f_X7_bring σ0 x1 = (s106, 1) := (by subst es106 es94 es30; exact (Eq.trans (if_neg c1) (Eq.trans (if_neg c6) (Eq.trans (if_neg c15) (Eq.trans (if_neg c29_0) (Eq.trans (if_pos c29_1) rfl))))))
            exact ret (congrArg (fun z => pdW a cA z.1) eq9) (congrArg (fun z => z.2) eq9) hw dX7_bring_110
          · have c29_2 : x1 = 2 := (two3 c1 (by rw [Int32.lt_iff_toInt_lt]; have := rg2 c1 c6 (b := 2) rfl; have e3 : (3 : Int32).toInt = 3 := rfl; omega) c29_0 c29_1)
            refine lD_14q (q := 18) K hw (vB2 3 (rg2 c1 c6 (b := 2) rfl) (by decide)) (by rw [c29_2]; decide) dX7_bring_29 ?_
            refine caV K hw (c_X1_copyFrom_3_18 l D a cA _ hI) hl.1 (tt_V km_X7_87 kI_X1_copyFrom ks_X1_copyFrom ki_X1 kC_X1_copyFrom) 3 (ci := 1) rfl rfl rfl (na := 1) rfl (by decide +kernel) ⟨rfl, rfl⟩ (by decide) ⟨Nat.zero_le _, Nat.zero_le _⟩ rfl (Nat.le_of_ble_eq_true rfl) dX7_bring_30 (fun H locs hw => ?_)
            obtain ⟨s30, es30, hw⟩ := nmD hw
            have hI30 : Bx s30 := by rw [es30]; exact bx_X1_copyFrom_3_18 hI
            refine lv_aload_n K.1 K.2.1 dX7_bring_33 rfl (lv_at hl 0 rfl) ?_
            refine gD_0_2 K hw kf_X7_26 dX7_bring_34 ?_
            refine lv_aload_n K.1 K.2.1 dX7_bring_37 rfl (lv_at hl 0 rfl) ?_
            refine gD_0_2 K hw kf_X7_26 dX7_bring_38 ?_
            refine gD_3_2 K hw kf_X7_91 dX7_bring_41 ?_
            refine lv_i2l K.1 K.2.1 dX7_bring_44 rfl ?_
            refine lv_iconst (v := 0) K.1 K.2.1 dX7_bring_45 (by decide) ?_
            refine lv_aload_n K.1 K.2.1 dX7_bring_46 rfl (lv_at hl 0 rfl) ?_
            refine gD_0_1 K hw kf_X7_19 dX7_bring_47 ?_
            refine gD_2_3 K hw kf_X7_95 dX7_bring_50 ?_
            refine caS K hw (c_X7_within l D a cA _ _ _ _) hl.1 km_X7_98 kS_X7_within ki_X7 kC_X7_within (na := 3) rfl (by decide +kernel) ⟨rfl, rfl⟩ (by decide) ⟨Nat.zero_le _, Nat.zero_le _⟩ rfl (Nat.le_of_ble_eq_true rfl) dX7_bring_53 (fun H locs hw => ?_)
            refine pD_3_2 K hw kf_X7_91 dX7_bring_56 (fun H locs hw => ?_)
            refine lv_aload_n K.1 K.2.1 dX7_bring_59 rfl (lv_at hl 0 rfl) ?_
            refine gD_0_2 K hw kf_X7_26 dX7_bring_60 ?_
            refine lv_aload_n K.1 K.2.1 dX7_bring_63 rfl (lv_at hl 0 rfl) ?_
            refine gD_0_2 K hw kf_X7_26 dX7_bring_64 ?_
            refine gD_3_3 K hw kf_X7_102 dX7_bring_67 ?_
            refine lv_i2l K.1 K.2.1 dX7_bring_70 rfl ?_
            refine lv_iconst (v := 0) K.1 K.2.1 dX7_bring_71 (by decide) ?_
            refine lv_aload_n K.1 K.2.1 dX7_bring_72 rfl (lv_at hl 0 rfl) ?_
            refine gD_0_1 K hw kf_X7_19 dX7_bring_73 ?_
            refine gD_2_3 K hw kf_X7_95 dX7_bring_76 ?_
            refine caS K hw (c_X7_within l D a cA _ _ _ _) hl.1 km_X7_98 kS_X7_within ki_X7 kC_X7_within (na := 3) rfl (by decide +kernel) ⟨rfl, rfl⟩ (by decide) ⟨Nat.zero_le _, Nat.zero_le _⟩ rfl (Nat.le_of_ble_eq_true rfl) dX7_bring_79 (fun H locs hw => ?_)
            refine pD_3_3 K hw kf_X7_102 dX7_bring_82 (fun H locs hw => ?_)
            refine lv_aload_n K.1 K.2.1 dX7_bring_85 rfl (lv_at hl 0 rfl) ?_
            refine lv_aload_n K.1 K.2.1 dX7_bring_86 rfl (lv_at hl 0 rfl) ?_
            refine gD_0_2 K hw kf_X7_26 dX7_bring_87 ?_
            refine gD_3_6 K hw kf_X7_105 dX7_bring_90 ?_
            refine lv_i2l K.1 K.2.1 dX7_bring_93 rfl ?_
            refine caV K hw (c_X7_setX l D a cA _ _) hl.1 (tt_V km_X7_80 kI_X7_setX ks_X7_setX ki_X7 kC_X7_setX) 0 (ci := 7) rfl rfl rfl (na := 1) rfl (by decide +kernel) ⟨rfl, rfl⟩ (by decide) ⟨Nat.zero_le _, Nat.zero_le _⟩ rfl (Nat.le_of_ble_eq_true rfl) dX7_bring_94 (fun H locs hw => ?_)
            obtain ⟨s94, es94, hw⟩ := nmD hw
            have hI94 : Bx s94 := by rw [es94]; exact bx_X7_setX (bxS_21 (bxS_20 hI30))
            refine lv_aload_n K.1 K.2.1 dX7_bring_97 rfl (lv_at hl 0 rfl) ?_
            refine lv_aload_n K.1 K.2.1 dX7_bring_98 rfl (lv_at hl 0 rfl) ?_
            refine gD_0_2 K hw kf_X7_26 dX7_bring_99 ?_
            refine gD_3_7 K hw kf_X7_108 dX7_bring_102 ?_
            refine lv_i2l K.1 K.2.1 dX7_bring_105 rfl ?_
            refine caV K hw (c_X7_setY l D a cA _ _) hl.1 (tt_V km_X7_84 kI_X7_setY ks_X7_setY ki_X7 kC_X7_setY) 0 (ci := 7) rfl rfl rfl (na := 1) rfl (by decide +kernel) ⟨rfl, rfl⟩ (by decide) ⟨Nat.zero_le _, Nat.zero_le _⟩ rfl (Nat.le_of_ble_eq_true rfl) dX7_bring_106 (fun H locs hw => ?_)
            obtain ⟨s106, es106, hw⟩ := nmD hw
            have hI106 : Bx s106 := by rw [es106]; exact bx_X7_setY hI94
            refine lv_iconst (v := 1) K.1 K.2.1 dX7_bring_109 (by decide) ?_
            have eq9 : f_X7_bring σ0 x1 = (s106, 1) := (by subst es106 es94 es30; exact (Eq.trans (if_neg c1) (Eq.trans (if_neg c6) (Eq.trans (if_neg c15) (Eq.trans (if_neg c29_0) (Eq.trans (if_neg c29_1) rfl))))))
            exact ret (congrArg (fun z => pdW a cA z.1) eq9) (congrArg (fun z => z.2) eq9) hw dX7_bring_110
      · refine lv_iconst (v := 0) K.1 K.2.1 dX7_bring_18 (by decide) ?_
        have eq9 : f_X7_bring σ0 x1 = (σ0, 0) := (by exact (Eq.trans (if_neg c1) (Eq.trans (if_neg c6) (Eq.trans (if_pos c15) rfl))))
        exact ret (congrArg (fun z => pdW a cA z.1) eq9) (congrArg (fun z => z.2) eq9) hw dX7_bring_19
def g_X7_feed_18 : Nat → PS → Int64 → Int32 → PS × Int32
  | 0, σ, y1, y4 => (σ, 0)
  | n + 1, σ, y1, y4 => (if y4 < 0 then (σ, 1) else let s36 : PS := f_X7_byteComes σ ((Int64.toInt32 ((Int64.toUInt64 y1 >>> (Int64.toUInt64 (Int32.toInt64 (8 * y4)) &&& Int64.toUInt64 63)).toInt64)) &&& 255); let x4_39 : Int32 := y4 + (-1); (g_X7_feed_18 n s36 y1 x4_39))
def f_X7_feed (σ0 : PS) (x1 : Int64) (x3 : Int32) : PS × Int32 := (if x3 < 1 then (σ0, 0) else (if x3 ≤ 8 then let x4_16 : Int32 := (x3 - 1); (g_X7_feed_18 9 σ0 x1 x4_16) else (σ0, 0)))
theorem bx_g_X7_feed_18 {n : Nat} {σ : PS} {y1 : Int64} {y4 : Int32} (hI : Bx σ) : Bx (g_X7_feed_18 n σ y1 y4).1 := by
  induction n generalizing σ y1 y4 with
  | zero => exact hI
  | succ n ih => exact (bxI2 (fun c20 => hI) (fun c20 => (ih (bx_X7_byteComes hI))))
theorem bx_X7_feed {σ0 : PS} {x1 : Int64} {x3 : Int32} (hI : Bx σ0) : Bx (f_X7_feed σ0 x1 x3).1 := (bxI2 (fun c2 => hI) (fun c2 => (bxI2 (fun c8 => (bx_g_X7_feed_18 hI)) (fun c8 => hI))))
abbrev rm_X7_feed : Room := { frames := 7, cells := 0, slots := 0, locals := 157 }
theorem nz_g_X7_feed_18 {n : Nat} {σ : PS} {y1 : Int64} {y4 : Int32} : NZ (g_X7_feed_18 n σ y1 y4).2 := by
  induction n generalizing σ y1 y4 with
  | zero => exact nz0
  | succ n ih => exact (nzI2 nz1 ih)
theorem nz_X7_feed {σ0 : PS} {x1 : Int64} {x3 : Int32} : NZ (f_X7_feed σ0 x1 x3).2 := (nzI2 nz0 (nzI2 nz_g_X7_feed_18 nz0))
set_option maxHeartbeats 4000000 in
set_option maxRecDepth 100000 in
theorem c_X7_feed (l : Launch) (D : va_G) (a : Nat → Nat) (cA : Nat → ClassId) (σ0 : PS) (x1 : Int64) (x3 : Int32) (hI : Bx σ0) : CI l yX7_feed cX7_feed 5 .boolean rm_X7_feed D (pdT cA) [.ref (a 0), .long x1, .int x3] (pdW a cA σ0) (pdW a cA (f_X7_feed σ0 x1 x3).1) (f_X7_feed σ0 x1 x3).2 := by
  refine en_i (by decide +kernel) (Nat.le_of_ble_eq_true rfl) nz_X7_feed ?_
  intro p e s m args below meth c A ls Q K hw hl ret
  have hl : lv_has ls 5 [(0, .ref (a 0)), (1, .long x1), (3, .int x3)] := hl
  have J18 : ∀ (n : Nat) (σ : PS) (y1 : Int64) (y4 : Int32) (H : Heap) (locs : List Loc) (ls : Array Slot), WD D A s.heap (pdW a cA σ) H locs → lv_has ls 5 [(0, .ref (a 0)), (1, .long y1), (4, .int y4)] → Bx σ → (-1 ≤ y4.toInt ∧ y4.toInt ≤ 7 ∧ y4.toInt + 1 < (n : Int)) → f_X7_feed σ0 x1 x3 = g_X7_feed_18 n σ y1 y4 → W p l e rm_X7_feed s m args below meth c H locs 0 0 Q (F0 m 18 ls []) := by
    intro n
    induction n with
    | zero =>
      intro σ y1 y4 H locs ls hw hl hI hv e0
      exact absurd hv (by omega)
    | succ n ih =>
      intro σ y1 y4 H locs ls hw hl hI hv e0
      refine lv_iload K.1 K.2.1 dX7_feed_18 (lv_at hl 2 rfl) ?_
      refine lv_if_lt (tgt := 45) K.1 K.2.1 dX7_feed_20 (by decide) (fun c20 => ?_) (fun c20 => ?_)
      · refine lv_iconst (v := 1) K.1 K.2.1 dX7_feed_45 (by decide) ?_
        have eq9 : f_X7_feed σ0 x1 x3 = (σ, 1) := (by exact (Eq.trans e0 (Eq.trans (if_pos c20) rfl)))
        exact ret (congrArg (fun z => pdW a cA z.1) eq9) (congrArg (fun z => z.2) eq9) hw dX7_feed_46
      · refine lv_aload_n K.1 K.2.1 dX7_feed_23 rfl (lv_at hl 0 rfl) ?_
        refine lv_lload_n K.1 K.2.1 dX7_feed_24 rfl (lv_at hl 1 rfl) ?_
        refine lv_bipush (v := 8) K.1 K.2.1 dX7_feed_25 (by decide) ?_
        refine lv_iload K.1 K.2.1 dX7_feed_27 (lv_at hl 2 rfl) ?_
        refine lv_imul K.1 K.2.1 dX7_feed_29 ?_
        refine lv_lushr K.1 K.2.1 dX7_feed_30 rfl ?_
        refine lv_l2i K.1 K.2.1 dX7_feed_31 rfl ?_
        refine lv_sipush (v := 255) K.1 K.2.1 dX7_feed_32 (by decide) ?_
        refine lv_iand K.1 K.2.1 dX7_feed_35 ?_
        refine caV K hw (c_X7_byteComes l D a cA _ _ hI (and255i _)) hl.1 (tt_V km_X7_72 kI_X7_byteComes ks_X7_byteComes ki_X7 kC_X7_byteComes) 0 (ci := 7) rfl rfl rfl (na := 1) rfl (by decide +kernel) ⟨rfl, rfl⟩ (by decide) ⟨Nat.zero_le _, Nat.zero_le _⟩ rfl (Nat.le_of_ble_eq_true rfl) dX7_feed_36 (fun H locs hw => ?_)
        obtain ⟨s36, es36, hw⟩ := nmD hw
        have hI36 : Bx s36 := by rw [es36]; exact bx_X7_byteComes hI
        obtain ⟨x4_39, ex4_39⟩ : ∃ z9 : Int32, z9 = y4 + (-1) := ⟨_, rfl⟩
        refine lv_iinc (v := x4_39) (lv' := [(4, .int x4_39), (0, .ref (a 0)), (1, .long y1)]) K.1 K.2.1 dX7_feed_39 hl (k := 2) rfl (by rw [ex4_39]; rfl) (by decide) rfl (fun ls hl => ?_)
        refine lv_goto (tgt := 18) K.1 K.2.1 dX7_feed_42 (by decide) ?_
        exact ih _ _ _ _ _ _ hw (lv_sub hl [1, 2, 0] rfl) hI36 (stepDnD hv c20 ex4_39) (by subst ex4_39 es36; exact (Eq.trans e0 (Eq.trans (if_neg c20) rfl)))
  refine lv_iload_n K.1 K.2.1 dX7_feed_0 rfl (lv_at hl 2 rfl) ?_
  refine lv_iconst (v := 1) K.1 K.2.1 dX7_feed_1 (by decide) ?_
  refine lv_icmp_lt (tgt := 11) K.1 K.2.1 dX7_feed_2 (by decide) (fun c2 => ?_) (fun c2 => ?_)
  · refine lv_iconst (v := 0) K.1 K.2.1 dX7_feed_11 (by decide) ?_
    have eq9 : f_X7_feed σ0 x1 x3 = (σ0, 0) := (by exact (Eq.trans (if_pos c2) rfl))
    exact ret (congrArg (fun z => pdW a cA z.1) eq9) (congrArg (fun z => z.2) eq9) hw dX7_feed_12
  · refine lv_iload_n K.1 K.2.1 dX7_feed_5 rfl (lv_at hl 2 rfl) ?_
    refine lv_bipush (v := 8) K.1 K.2.1 dX7_feed_6 (by decide) ?_
    refine lv_icmp_le (tgt := 13) K.1 K.2.1 dX7_feed_8 (by decide) (fun c8 => ?_) (fun c8 => ?_)
    · refine lv_iload_n K.1 K.2.1 dX7_feed_13 rfl (lv_at hl 2 rfl) ?_
      refine lv_iconst (v := 1) K.1 K.2.1 dX7_feed_14 (by decide) ?_
      refine lv_isub K.1 K.2.1 dX7_feed_15 ?_
      refine lv_topi (fun x4_16 ex4_16 => ?_)
      refine lv_istore (lv' := [(4, .int x4_16), (0, .ref (a 0)), (1, .long x1), (3, .int x3)]) K.1 K.2.1 dX7_feed_16 hl (by decide) rfl (fun ls hl => ?_)
      exact J18 9 _ _ _ _ _ _ hw (lv_sub hl [1, 2, 0] rfl) hI (by rw [ex4_16]; exact fdEntry c2 c8) (by subst ex4_16; exact (Eq.trans (if_neg c2) (Eq.trans (if_pos c8) rfl)))
    · refine lv_iconst (v := 0) K.1 K.2.1 dX7_feed_11 (by decide) ?_
      have eq9 : f_X7_feed σ0 x1 x3 = (σ0, 0) := (by exact (Eq.trans (if_neg c2) (Eq.trans (if_neg c8) rfl)))
      exact ret (congrArg (fun z => pdW a cA z.1) eq9) (congrArg (fun z => z.2) eq9) hw dX7_feed_12
def g_X3_firstEightBytes_21 : Nat → PS → Int32 → Int64 → Int32 → Int64
  | 0, σ0, y1, y2, y4 => 0
  | n + 1, σ0, y1, y2, y4 => (if ((8 * y1) + 8) ≤ y4 then y2 else let j43 : Nat := Int32.toNatClampNeg (σ0.1 36); (if (σ0.2.1 17 j43) ≤ y4 then let x2_84 : Int64 := ((y2 <<< (Int32.toInt64 8 &&& 63)) ||| (Int32.toInt64 0)); let x4_85 : Int32 := y4 + 1; (g_X3_firstEightBytes_21 n σ0 y1 x2_84 x4_85) else let x5_74 : Int32 := ((σ0.2.1 5 (Int32.toNatClampNeg (((σ0.1 37) + y4) - ((σ0.1 37) + y4) / 4096 * 4096))) &&& 255); let x2_84 : Int64 := ((y2 <<< (Int32.toInt64 8 &&& 63)) ||| (Int32.toInt64 x5_74)); let x4_85 : Int32 := y4 + 1; (g_X3_firstEightBytes_21 n σ0 y1 x2_84 x4_85)))
def f_X3_firstEightBytes (σ0 : PS) (x1 : Int32) : Int64 := (if x1 < 0 then 0 else (if x1 < 512 then let x4_19 : Int32 := (8 * x1); (g_X3_firstEightBytes_21 9 σ0 x1 0 x4_19) else 0))
abbrev rm_X3_firstEightBytes : Room := { frames := 0, cells := 0, slots := 0, locals := 0 }
set_option maxHeartbeats 4000000 in
set_option maxRecDepth 100000 in
theorem c_X3_firstEightBytes (l : Launch) (D : va_G) (a : Nat → Nat) (cA : Nat → ClassId) (σ0 : PS) (x1 : Int32) (hI : Bx σ0) : CL l yX3_firstEightBytes cX3_firstEightBytes 6 rm_X3_firstEightBytes D (pdT cA) [.ref (a 6), .int x1] (pdW a cA σ0) (pdW a cA σ0) (f_X3_firstEightBytes σ0 x1) := by
  refine en_l (by decide +kernel) (Nat.le_of_ble_eq_true rfl) ?_
  intro p e s m args below meth c A ls Q K hw hl ret
  have hl : lv_has ls 6 [(0, .ref (a 6)), (1, .int x1)] := hl
  have J21 : ∀ (n : Nat) (y1 : Int32) (y2 : Int64) (y4 : Int32) (H : Heap) (locs : List Loc) (ls : Array Slot), WD D A s.heap (pdW a cA σ0) H locs → lv_has ls 6 [(0, .ref (a 6)), (1, .int y1), (2, .long y2), (4, .int y4)] → Bx σ0 → (EbI n y1 y4) → f_X3_firstEightBytes σ0 x1 = g_X3_firstEightBytes_21 n σ0 y1 y2 y4 → W p l e rm_X3_firstEightBytes s m args below meth c H locs 0 0 Q (F0 m 21 ls []) := by
    intro n
    induction n with
    | zero =>
      intro y1 y2 y4 H locs ls hw hl hI hv e0
      exact absurd hv (fun h9 => by obtain ⟨-, -, h3, h4⟩ := h9; omega)
    | succ n ih =>
      intro y1 y2 y4 H locs ls hw hl hI hv e0
      refine lv_iload K.1 K.2.1 dX3_firstEightBytes_21 (lv_at hl 3 rfl) ?_
      refine lv_bipush (v := 8) K.1 K.2.1 dX3_firstEightBytes_23 (by decide) ?_
      refine lv_iload_n K.1 K.2.1 dX3_firstEightBytes_25 rfl (lv_at hl 1 rfl) ?_
      refine lv_imul K.1 K.2.1 dX3_firstEightBytes_26 ?_
      refine lv_bipush (v := 8) K.1 K.2.1 dX3_firstEightBytes_27 (by decide) ?_
      refine lv_iadd K.1 K.2.1 dX3_firstEightBytes_29 ?_
      refine lv_icmp_ge (tgt := 91) K.1 K.2.1 dX3_firstEightBytes_30 (by decide) (fun c30 => ?_) (fun c30 => ?_)
      · refine lv_lload_n K.1 K.2.1 dX3_firstEightBytes_91 rfl (lv_at hl 2 rfl) ?_
        exact ret rfl (by exact (Eq.trans e0 (Eq.trans (if_pos c30) rfl))) hw dX3_firstEightBytes_92
      · refine lv_iload K.1 K.2.1 dX3_firstEightBytes_33 (lv_at hl 3 rfl) ?_
        refine lv_aload_n K.1 K.2.1 dX3_firstEightBytes_35 rfl (lv_at hl 0 rfl) ?_
        refine gD_6_0 K hw kf_X3_11 dX3_firstEightBytes_36 ?_
        refine lv_aload_n K.1 K.2.1 dX3_firstEightBytes_39 rfl (lv_at hl 0 rfl) ?_
        refine gD_6_3 K hw kf_X3_28 dX3_firstEightBytes_40 ?_
        refine lD_15n K hw (vB2 16 (bxg_36 (σ := σ0) hI) (by decide)) dX3_firstEightBytes_43 (fun j43 ej43 hj43 => ?_)
        refine gO_5 K hw hj43 kf_X3_53 dX3_firstEightBytes_44 ?_
        refine lv_icmp_ge (tgt := 73) K.1 K.2.1 dX3_firstEightBytes_47 (by decide) (fun c47 => ?_) (fun c47 => ?_)
        · refine lv_iconst (v := 0) K.1 K.2.1 dX3_firstEightBytes_73 (by decide) ?_
          refine lv_istore (lv' := [(5, .int 0), (0, .ref (a 6)), (1, .int y1), (2, .long y2), (4, .int y4)]) K.1 K.2.1 dX3_firstEightBytes_74 hl (by decide) rfl (fun ls hl => ?_)
          refine lv_lload_n K.1 K.2.1 dX3_firstEightBytes_76 rfl (lv_at hl 3 rfl) ?_
          refine lv_bipush (v := 8) K.1 K.2.1 dX3_firstEightBytes_77 (by decide) ?_
          refine lv_lshl K.1 K.2.1 dX3_firstEightBytes_79 rfl ?_
          refine lv_iload K.1 K.2.1 dX3_firstEightBytes_80 (lv_at hl 0 rfl) ?_
          refine lv_i2l K.1 K.2.1 dX3_firstEightBytes_82 rfl ?_
          refine lv_lor K.1 K.2.1 dX3_firstEightBytes_83 ?_
          refine lv_topl (fun x2_84 ex2_84 => ?_)
          refine lv_lstore_n (lv' := [(2, .long x2_84), (5, .int 0), (0, .ref (a 6)), (1, .int y1), (4, .int y4)]) K.1 K.2.1 dX3_firstEightBytes_84 rfl hl (by decide) rfl (fun ls hl => ?_)
          obtain ⟨x4_85, ex4_85⟩ : ∃ z9 : Int32, z9 = y4 + 1 := ⟨_, rfl⟩
          refine lv_iinc (v := x4_85) (lv' := [(4, .int x4_85), (2, .long x2_84), (5, .int 0), (0, .ref (a 6)), (1, .int y1)]) K.1 K.2.1 dX3_firstEightBytes_85 hl (k := 4) rfl (by rw [ex4_85]; rfl) (by decide) rfl (fun ls hl => ?_)
          refine lv_goto (tgt := 21) K.1 K.2.1 dX3_firstEightBytes_88 (by decide) ?_
          exact ih _ _ _ _ _ _ hw (lv_sub hl [3, 4, 1, 0] rfl) hI (ebS hv c30 ex4_85) (by subst ex4_85 ex2_84 ej43; exact (Eq.trans e0 (Eq.trans (if_neg c30) (Eq.trans (if_pos c47) rfl))))
        · refine lv_aload_n K.1 K.2.1 dX3_firstEightBytes_50 rfl (lv_at hl 0 rfl) ?_
          refine gD_6_1 K hw kf_X3_15 dX3_firstEightBytes_51 ?_
          refine lv_aload_n K.1 K.2.1 dX3_firstEightBytes_54 rfl (lv_at hl 0 rfl) ?_
          refine gD_6_4 K hw kf_X3_65 dX3_firstEightBytes_55 ?_
          refine lv_iload K.1 K.2.1 dX3_firstEightBytes_58 (lv_at hl 3 rfl) ?_
          refine lv_iadd K.1 K.2.1 dX3_firstEightBytes_60 ?_
          refine lv_sipush (v := 4096) K.1 K.2.1 dX3_firstEightBytes_61 (by decide) ?_
          refine lv_irem K.1 K.2.1 dX3_firstEightBytes_64 (by decide) ?_
          refine lD_12 K hw (vSum 4096 ⟨(bxg_37 (σ := σ0) hI).1, Int.le_trans (bxg_37 (σ := σ0) hI).2 (by decide)⟩ (by obtain ⟨h1, h2, h3, h4⟩ := hv; omega) rfl (by decide)) rfl dX3_firstEightBytes_65 ?_
          refine lv_sipush (v := 255) K.1 K.2.1 dX3_firstEightBytes_66 (by decide) ?_
          refine lv_iand K.1 K.2.1 dX3_firstEightBytes_69 ?_
          refine lv_goto (tgt := 74) K.1 K.2.1 dX3_firstEightBytes_70 (by decide) ?_
          refine lv_topi (fun x5_74 ex5_74 => ?_)
          refine lv_istore (lv' := [(5, .int x5_74), (0, .ref (a 6)), (1, .int y1), (2, .long y2), (4, .int y4)]) K.1 K.2.1 dX3_firstEightBytes_74 hl (by decide) rfl (fun ls hl => ?_)
          refine lv_lload_n K.1 K.2.1 dX3_firstEightBytes_76 rfl (lv_at hl 3 rfl) ?_
          refine lv_bipush (v := 8) K.1 K.2.1 dX3_firstEightBytes_77 (by decide) ?_
          refine lv_lshl K.1 K.2.1 dX3_firstEightBytes_79 rfl ?_
          refine lv_iload K.1 K.2.1 dX3_firstEightBytes_80 (lv_at hl 0 rfl) ?_
          refine lv_i2l K.1 K.2.1 dX3_firstEightBytes_82 rfl ?_
          refine lv_lor K.1 K.2.1 dX3_firstEightBytes_83 ?_
          refine lv_topl (fun x2_84 ex2_84 => ?_)
          refine lv_lstore_n (lv' := [(2, .long x2_84), (5, .int x5_74), (0, .ref (a 6)), (1, .int y1), (4, .int y4)]) K.1 K.2.1 dX3_firstEightBytes_84 rfl hl (by decide) rfl (fun ls hl => ?_)
          obtain ⟨x4_85, ex4_85⟩ : ∃ z9 : Int32, z9 = y4 + 1 := ⟨_, rfl⟩
          refine lv_iinc (v := x4_85) (lv' := [(4, .int x4_85), (2, .long x2_84), (5, .int x5_74), (0, .ref (a 6)), (1, .int y1)]) K.1 K.2.1 dX3_firstEightBytes_85 hl (k := 4) rfl (by rw [ex4_85]; rfl) (by decide) rfl (fun ls hl => ?_)
          refine lv_goto (tgt := 21) K.1 K.2.1 dX3_firstEightBytes_88 (by decide) ?_
          exact ih _ _ _ _ _ _ hw (lv_sub hl [3, 4, 1, 0] rfl) hI (ebS hv c30 ex4_85) (by subst ex4_85 ex2_84 ex5_74 ej43; exact (Eq.trans e0 (Eq.trans (if_neg c30) (Eq.trans (if_neg c47) rfl))))
  refine lv_iload_n K.1 K.2.1 dX3_firstEightBytes_0 rfl (lv_at hl 1 rfl) ?_
  refine lv_if_lt (tgt := 11) K.1 K.2.1 dX3_firstEightBytes_1 (by decide) (fun c1 => ?_) (fun c1 => ?_)
  · refine lv_lconst (v := 0) K.1 K.2.1 dX3_firstEightBytes_11 (by decide) ?_
    exact ret rfl (by exact (Eq.trans (if_pos c1) rfl)) hw dX3_firstEightBytes_12
  · refine lv_iload_n K.1 K.2.1 dX3_firstEightBytes_4 rfl (lv_at hl 1 rfl) ?_
    refine lv_sipush (v := 512) K.1 K.2.1 dX3_firstEightBytes_5 (by decide) ?_
    refine lv_icmp_lt (tgt := 13) K.1 K.2.1 dX3_firstEightBytes_8 (by decide) (fun c8 => ?_) (fun c8 => ?_)
    · refine lv_lconst (v := 0) K.1 K.2.1 dX3_firstEightBytes_13 (by decide) ?_
      refine lv_lstore_n (lv' := [(2, .long 0), (0, .ref (a 6)), (1, .int x1)]) K.1 K.2.1 dX3_firstEightBytes_14 rfl hl (by decide) rfl (fun ls hl => ?_)
      refine lv_bipush (v := 8) K.1 K.2.1 dX3_firstEightBytes_15 (by decide) ?_
      refine lv_iload_n K.1 K.2.1 dX3_firstEightBytes_17 rfl (lv_at hl 2 rfl) ?_
      refine lv_imul K.1 K.2.1 dX3_firstEightBytes_18 ?_
      refine lv_topi (fun x4_19 ex4_19 => ?_)
      refine lv_istore (lv' := [(4, .int x4_19), (2, .long 0), (0, .ref (a 6)), (1, .int x1)]) K.1 K.2.1 dX3_firstEightBytes_19 hl (by decide) rfl (fun ls hl => ?_)
      exact J21 9 _ _ _ _ _ _ hw (lv_sub hl [2, 3, 1, 0] rfl) hI (by rw [ex4_19]; have h9 := ebEntry c1 c8; exact ⟨⟨h9.1, h9.2.1⟩, by omega, by omega, by omega⟩) (by subst ex4_19; exact (Eq.trans (if_neg c1) (Eq.trans (if_pos c8) rfl)))
    · refine lv_lconst (v := 0) K.1 K.2.1 dX3_firstEightBytes_11 (by decide) ?_
      exact ret rfl (by exact (Eq.trans (if_neg c1) (Eq.trans (if_neg c8) rfl))) hw dX3_firstEightBytes_12
