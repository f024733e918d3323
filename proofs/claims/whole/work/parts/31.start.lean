/-! the law from its entry: the constructors, then the loop -/
set_option maxHeartbeats 16000000 in
set_option maxRecDepth 100000 in
theorem start_of {R : Nat → PS → PS → Prop} (hSim : Sims R) (hR0 : R 0 (f_X7_init_t z7PS) (f_X8_init_t zPS)) {p : Program} {e : Env} {s : State} {m : MethodId} {below : List Frame} {meth : Method} {c : Code} (l : Launch) (hl0 : l.stackTraces = false) {b L : Nat} {xs : Nat → Int32} (hL : L ≤ 2048) (C0 : lw_At p s m meth c b L xs) : W p l e room_1 s m #[Value.ref b] below meth c s.heap [] 0 0 (lw_Z below #[Value.ref b] s) (entryFrame m ([Value.ref b] : List Value).toArray 8) := by
  obtain ⟨hx, hb, hr, hml, hown, hts, hX, hbl, hlocks, hgv⟩ := id C0
  have hA : ∀ q : Nat, s.heap.size ≤ q → (fun q : Nat => s.heap.size ≤ q) q := fun _ h => h
  have hT : ∀ w ∈ TT, w.before #[Value.ref b] s = true := fun w h => hts w (tt_l h)
  have hs := flat_of_before _ hgv
  have hnA : ∀ a : Nat, a < s.heap.size → ¬ (fun q : Nat => s.heap.size ≤ q) a := fun a h => Nat.not_le.mpr h
  have hNc : va_Nc nIO nIS s := va_Nc.of (hs (.not (.castable nIO nIS)) (by decide +kernel))
  have hXF : XF (fun q : Nat => s.heap.size ≤ q) s s.heap := ⟨⟨va_Nw.of rfl (hts (.declares (ini0 "java/lang/RuntimeException")) (by decide +kernel)), va_Nw.of rfl (hts (.declares (ini0 "java/lang/Exception")) (by decide +kernel)), va_Nw.of rfl (hts (.declares (ini0 "java/lang/Throwable")) (by decide +kernel)), va_Nw.of rfl (hts (.castable nIO nIO) (by decide +kernel)), va_Nw.of rfl (hts (.castable nIS nIS) (by decide +kernel))⟩, vx_Zqof (hts (.laysStatic Bundle.tN "UNASSIGNED_STACK" Bundle.steD) (by decide +kernel)) (hts (.initialized Bundle.tN) (by decide +kernel)) (hs (.isRef (.static Bundle.tN "UNASSIGNED_STACK" Bundle.steD)) (by decide +kernel)) hnA, vx_Zqof (hts (.laysStatic Bundle.tN "SUPPRESSED_SENTINEL" Bundle.listD) (by decide +kernel)) (hts (.initialized Bundle.tN) (by decide +kernel)) (hs (.isRef (.static Bundle.tN "SUPPRESSED_SENTINEL" Bundle.listD)) (by decide +kernel)) hnA⟩
  have hN : NF s := ⟨va_Nw.of rfl (hts _ kn_X7_9), va_Nw.of rfl (hts _ kn_X7_18), va_Nw.of rfl (hts _ kn_X7_25), va_Nw.of rfl (hts _ kn_X7_40), va_Nw.of rfl (hts _ kn_X7_47), va_Nw.of rfl (hts _ kn_X3_19), va_AO.of (hts _ ko_X1), va_AO.of (hts _ ko_X2)⟩
  obtain ⟨c0, iS0, hKn0⟩ := u_known (C := RX0) (T := TX0) (N := 2) (n := 2) hT iX0 (hT _ kN_X0)
  obtain ⟨c1, iS1, hKn1⟩ := u_known (C := RX1) (T := TX1) (N := 15) (n := 15) hT iX1 (hT _ kN_X1)
  obtain ⟨c2, iS2, hKn2⟩ := u_known (C := RX2) (T := TX2) (N := 7) (n := 7) hT iX2 (hT _ kN_X2)
  obtain ⟨c3, iS3, hKn3⟩ := u_known (C := RX3) (T := TX3) (N := 7) (n := 7) hT iX3 (hT _ kN_X3)
  obtain ⟨c4, iS4, hKn4⟩ := u_known (C := RX4) (T := TX4) (N := 5) (n := 5) hT iX4 (hT _ kN_X4)
  obtain ⟨c5, iS5, hKn5⟩ := u_known (C := RX5) (T := TX5) (N := 13) (n := 13) hT iX5 (hT _ kN_X5)
  obtain ⟨c6, iS6, hKn6⟩ := u_known (C := RX6) (T := TX6) (N := 4) (n := 4) hT iX6 (hT _ kN_X6)
  obtain ⟨c7, iS7, hKn7⟩ := u_known (C := RX7) (T := TX7) (N := 10) (n := 10) hT iX7 (hT _ kN_X7)
  obtain ⟨c8, iS8, hKn8⟩ := u_known (C := RX8) (T := TX8) (N := 33) (n := 33) hT iX8 (hT _ kN_X8)
  obtain ⟨dC, dI, hKc⟩ : ∃ (dC : Nat → ClassId) (dI : Nat → Nat → Nat), ∀ (k : Nat) (q : vw_C), vwCl[k]? = some q → u_Kn s q.1 q.2.1 q.2.2 (dC k) (dI k) := by
    refine ⟨fun k => if k = 0 then c0 else if k = 1 then c1 else if k = 2 then c2 else if k = 3 then c3 else if k = 4 then c4 else if k = 5 then c5 else if k = 6 then c6 else if k = 7 then c7 else c8, fun k => if k = 0 then iS0 else if k = 1 then iS1 else if k = 2 then iS2 else if k = 3 then iS3 else if k = 4 then iS4 else if k = 5 then iS5 else if k = 6 then iS6 else if k = 7 then iS7 else iS8, ?_⟩
    intro k q hq
    match k, hq with
    | 0, hq => cases hq; exact hKn0
    | 1, hq => cases hq; exact hKn1
    | 2, hq => cases hq; exact hKn2
    | 3, hq => cases hq; exact hKn3
    | 4, hq => cases hq; exact hKn4
    | 5, hq => cases hq; exact hKn5
    | 6, hq => cases hq; exact hKn6
    | 7, hq => cases hq; exact hKn7
    | 8, hq => cases hq; exact hKn8
    | k + 9, hq => simp [vwCl] at hq
  have hK : va_K (dC, dI) vwCl [] s := ⟨hKc, fun k q h => by simp at h⟩
  have hw : WD (dC, dI) (fun q : Nat => s.heap.size ≤ q) s.heap [] s.heap [] := ⟨fun k q h => by simp at h, ⟨fun i j p q h => by simp at h, fun k q h => by simp at h⟩, va_S.rf, hA⟩
  have hl := lv_entry ([.ref b]) (n := 8) (Nat.le_of_ble_eq_true rfl)
  rw [lg_entry_eq]
  generalize (lg_sl ([.ref b]) ++ List.replicate (8 - (lg_sl ([.ref b])).length) Slot.unset).toArray = ls at hl ⊢
  have hl : lv_has ls 8 [(0, .ref b)] := hl
  have K : MC p s m #[Value.ref b] meth c code RL 8 (dC, dI) [] := ⟨hx, hb, hT, hown, hK, hml, hlocks⟩
  refine kNew K hw (ci := 7) (T := TX7) (N := 10) iX7 tyX7_ok kk_L_8 kN_X7 ki_X7 rfl [.null, .null, .null, .null, .null, .null, .null, .null, .null, .int 0] (fun j hj => match j, hj with | 0, _ => rfl | 1, _ => rfl | 2, _ => rfl | 3, _ => rfl | 4, _ => rfl | 5, _ => rfl | 6, _ => rfl | 7, _ => rfl | 8, _ => rfl | 9, _ => rfl) ⟨by decide, by decide⟩ dL_law_0 (fun q7 H hw => ?_)
  refine lv_dup K.1 K.2.1 dL_law_3 rfl ?_
  refine kIni K hN hw (c_X7_init l (dC, dI) q7) hl.1 km_L_32 kC_X7_init ki_X7 kI_X7_init rfl (by decide +kernel) ⟨rfl, rfl⟩ (by decide) ⟨by decide, by decide⟩ (Nat.le_of_ble_eq_true rfl) dL_law_4 (fun u7 H locs K hw => ?_)
  obtain ⟨a7, cA⟩ := u7
  refine lv_astore_n (lv' := [(1, .ref q7), (0, .ref b)]) K.1 K.2.1 dL_law_7 rfl hl (by decide) rfl (fun ls hl => ?_)
  refine kNew K hw (ci := 8) (T := TX8) (N := 33) iX8 tyX8_ok kk_L_33 kN_X8 ki_X8 rfl [.int 0, .null, .null, .null, .int 0, .int 0, .int 0, .int 0, .int 0, .null, .int 0, .int 0, .int 0, .int 0, .int 0, .int 0, .int 0, .int 0, .int 0, .int 0, .int 0, .int 0, .int 0, .int 0, .int 0, .int 0, .null, .int 0, .null, .int 0, .null, .int 0, .null] (fun j hj => match j, hj with | 0, _ => rfl | 1, _ => rfl | 2, _ => rfl | 3, _ => rfl | 4, _ => rfl | 5, _ => rfl | 6, _ => rfl | 7, _ => rfl | 8, _ => rfl | 9, _ => rfl | 10, _ => rfl | 11, _ => rfl | 12, _ => rfl | 13, _ => rfl | 14, _ => rfl | 15, _ => rfl | 16, _ => rfl | 17, _ => rfl | 18, _ => rfl | 19, _ => rfl | 20, _ => rfl | 21, _ => rfl | 22, _ => rfl | 23, _ => rfl | 24, _ => rfl | 25, _ => rfl | 26, _ => rfl | 27, _ => rfl | 28, _ => rfl | 29, _ => rfl | 30, _ => rfl | 31, _ => rfl | 32, _ => rfl | n + 33, h => absurd h (by omega)) ⟨by decide, by decide⟩ dL_law_8 (fun q8 H hw => ?_)
  refine lv_dup K.1 K.2.1 dL_law_11 rfl ?_
  refine kIni K hN hw (c_X8_init l (dC, dI) q8) hl.1 km_L_35 kC_X8_init ki_X8 kI_X8_init rfl (by decide +kernel) ⟨rfl, rfl⟩ (by decide) ⟨by decide, by decide⟩ (Nat.le_of_ble_eq_true rfl) dL_law_12 (fun u8 H locs K hw => ?_)
  obtain ⟨a8, cB⟩ := u8
  refine lv_astore_n (lv' := [(2, .ref q8), (1, .ref q7), (0, .ref b)]) K.1 K.2.1 dL_law_15 rfl hl (by decide) rfl (fun ls hl => ?_)
  refine lv_iconst (v := 1) K.1 K.2.1 dL_law_16 (by decide) ?_
  refine kArr K hw (ty := .long) rfl ka_long (1, .inr (.inl (fun _ => 0))) (fun _ => rfl) (by decide) (by decide) (by decide) ⟨by decide, by decide⟩ dL_law_17 (fun o cO H K hw => ?_)
  refine lv_astore_n (lv' := [(3, .ref o), (2, .ref q8), (1, .ref q7), (0, .ref b)]) K.1 K.2.1 dL_law_19 rfl hl (by decide) rfl (fun ls hl => ?_)
  refine lv_iconst (v := 0) K.1 K.2.1 dL_law_20 (by decide) ?_
  refine lv_istore (lv' := [(4, .int 0), (3, .ref o), (2, .ref q8), (1, .ref q7), (0, .ref b)]) K.1 K.2.1 dL_law_21 hl (by decide) rfl (fun ls hl => ?_)
  have hw : WD (dC, dI) (fun q : Nat => s.heap.size ≤ q) s.heap ((pdW (va_up a7 0 q7) cA (f_X7_init_t z7PS) ++ mdW (va_up a8 0 q8) cB (f_X8_init_t zPS)) ++ [outC o cO (fun _ => 0)]) H locs := hw
  have K : MC p s m #[Value.ref b] meth c code RL 8 (dC, dI) ((pdT cA ++ mdT cB) ++ [(cO, .long)]) := K
  rw [List.append_assoc] at hw K
  have hl : lv_has ls 8 [(4, .int 0), (0, .ref b), (1, .ref ((va_up a7 0 q7) 0)), (2, .ref ((va_up a8 0 q8) 0)), (3, .ref o)] := lv_sub hl [0, 4, 3, 2, 1] rfl
  exact law_loop hSim hL hl0 hr hX hbl K hXF hNc (L + 1) 0 0 _ _ _ _ _ _ rfl (by omega) (by omega) hR0 hw hl
