def g_X8_known_39 (σ : PS) (y1 : Int32) (y2 : Int32) (y3 : Int32) (y4 : Int64) : PS × Int32 := (if (f_X8_is σ 38 107 72 y1) = 0 then (if (f_X8_is σ 38 107 71 y1) = 0 then (if (f_X8_is σ 38 97 76 y1) = 0 then (if (f_X8_is σ 38 97 77 y1) = 0 then (if (f_X8_is σ 38 115 67 y1) = 0 then (if (f_X8_is σ 38 102 83 y1) = 0 then let s375 : PS := (f_X8_cursor σ y1 y2 y4).1; (s375, (f_X8_cursor σ y1 y2 y4).2) else let s364 : PS := f_X8_stack σ y3; (s364, 1)) else (if y3 = 0 then ((upA σ 0 8 1), 1) else (if y3 = 1 then ((upA σ 0 8 0), 1) else ((upA σ 0 8 (σ.2.1 0 8)), 1)))) else let x6_231 : Int64 := (((Int32.toInt64 y3) + 1) * (Int32.toInt64 (σ.2.1 0 6))); (if x6_231 ≤ (Int32.toInt64 (σ.2.1 0 2)) then (σ, 1) else (if (σ.2.1 0 0) ≤ (f_X8_within x6_231 (σ.1 7)) then ((upA (upA σ 0 3 (f_X8_within x6_231 (σ.1 7))) 0 0 (σ.2.1 0 0)), 1) else ((upA (upA σ 0 3 (f_X8_within x6_231 (σ.1 7))) 0 0 (f_X8_within x6_231 (σ.1 7))), 1)))) else (if (Int32.toInt64 (σ.2.1 0 3)) ≤ ((Int32.toInt64 y3) * (Int32.toInt64 (σ.2.1 0 6))) then (σ, 1) else (if (y3 * (σ.2.1 0 6)) ≤ (σ.2.1 0 0) then ((upA (upA σ 0 2 (y3 * (σ.2.1 0 6))) 0 0 (σ.2.1 0 0)), 1) else ((upA (upA σ 0 2 (y3 * (σ.2.1 0 6))) 0 0 (y3 * (σ.2.1 0 6))), 1)))) else (if 4 ≤ y3 then ((upA σ 0 10 (σ.2.1 0 10)), 1) else ((upA σ 0 10 y3), 1))) else ((upA σ 0 6 (Int64.toInt32 ((60 * y4) / 10000))), 1))
def g_X8_known_10 (σ : PS) (y1 : Int32) (y2 : Int32) (y3 : Int32) (k0 : Int64) : PS × Int32 := (if (σ.1 11) = 38 then (if (σ.1 12) = 108 then let s35 : PS := (f_X8_paging σ y1 k0 y3).1; (s35, (f_X8_paging σ y1 k0 y3).2) else (g_X8_known_39 σ y1 y2 y3 k0)) else (g_X8_known_39 σ y1 y2 y3 k0))
def f_X8_known (σ0 : PS) (x1 : Int32) (x2 : Int32) (x3 : Int32) : PS × Int32 := (if 0 ≤ x2 then (g_X8_known_10 σ0 x1 x2 x3 (Int32.toInt64 x2)) else (g_X8_known_10 σ0 x1 x2 x3 0))
theorem bm_g_X8_known_39 {σ : PS} {y1 : Int32} {y2 : Int32} {y3 : Int32} {y4 : Int64} (hI : Bm σ) : Bm (g_X8_known_39 σ y1 y2 y3 y4).1 := (bxI2 (fun c50 => (bxI2 (fun c85 => (bxI2 (fun c125 => (bxI2 (fun c215 => (bxI2 (fun c311 => (bxI2 (fun c359 => (bm_X8_cursor hI)) (fun c359 => (bm_X8_stack hI)))) (fun c311 => (bxI2 (fun c321 => (bmT hI (by decide) (by decide))) (fun c321 => (bxI2 (fun c330 => (bmT hI (by decide) (by decide))) (fun c330 => (bmT hI (by decide) (by decide))))))))) (fun c215 => (bxI2 (fun c242 => hI) (fun c242 => (bxI2 (fun c278 => (bmT (bmT hI (by decide) (by decide)) (by decide) (by decide))) (fun c278 => (bmT (bmT hI (by decide) (by decide)) (by decide) (by decide))))))))) (fun c125 => (bxI2 (fun c146 => hI) (fun c146 => (bxI2 (fun c182 => (bmT (bmT hI (by decide) (by decide)) (by decide) (by decide))) (fun c182 => (bmT (bmT hI (by decide) (by decide)) (by decide) (by decide))))))))) (fun c85 => (bxI2 (fun c96 => (bmT hI (by decide) (by decide))) (fun c96 => (bmT hI (by decide) (by decide))))))) (fun c50 => (bmT hI (by decide) (by decide))))
theorem bm_g_X8_known_10 {σ : PS} {y1 : Int32} {y2 : Int32} {y3 : Int32} {k0 : Int64} (hI : Bm σ) : Bm (g_X8_known_10 σ y1 y2 y3 k0).1 := (bxI2 (fun c18 => (bxI2 (fun c27 => (bm_X8_paging hI)) (fun c27 => (bm_g_X8_known_39 hI)))) (fun c18 => (bm_g_X8_known_39 hI)))
theorem bm_X8_known {σ0 : PS} {x1 : Int32} {x2 : Int32} {x3 : Int32} (hI : Bm σ0) : Bm (f_X8_known σ0 x1 x2 x3).1 := (bxI2 (fun c1 => (bm_g_X8_known_10 hI)) (fun c1 => (bm_g_X8_known_10 hI)))
theorem pm_g_X8_known_39 {n : Int} {σ : PS} {y1 : Int32} {y2 : Int32} {y3 : Int32} {y4 : Int64} (hP : Pm n σ) : Pm (n) (g_X8_known_39 σ y1 y2 y3 y4).1 := (bxI2 (fun c50 => (bxI2 (fun c85 => (bxI2 (fun c125 => (bxI2 (fun c215 => (bxI2 (fun c311 => (bxI2 (fun c359 => (pm_X8_cursor hP)) (fun c359 => (pm_X8_stack hP)))) (fun c311 => (bxI2 (fun c321 => hP) (fun c321 => (bxI2 (fun c330 => hP) (fun c330 => hP))))))) (fun c215 => (bxI2 (fun c242 => hP) (fun c242 => (bxI2 (fun c278 => hP) (fun c278 => hP))))))) (fun c125 => (bxI2 (fun c146 => hP) (fun c146 => (bxI2 (fun c182 => hP) (fun c182 => hP))))))) (fun c85 => (bxI2 (fun c96 => hP) (fun c96 => hP))))) (fun c50 => hP))
theorem pm_g_X8_known_10 {n : Int} {σ : PS} {y1 : Int32} {y2 : Int32} {y3 : Int32} {k0 : Int64} (hP : Pm n σ) (hn : n ≤ 2147483646) : Pm (n + 1) (g_X8_known_10 σ y1 y2 y3 k0).1 := (bxI2 (fun c18 => (bxI2 (fun c27 => (pm_X8_paging hP hn)) (fun c27 => (pm_w (pm_g_X8_known_39 hP))))) (fun c18 => (pm_w (pm_g_X8_known_39 hP))))
theorem pm_X8_known {n : Int} {σ0 : PS} {x1 : Int32} {x2 : Int32} {x3 : Int32} (hP : Pm n σ0) (hn : n ≤ 2147483646) : Pm (n + 1) (f_X8_known σ0 x1 x2 x3).1 := (bxI2 (fun c1 => (pm_g_X8_known_10 hP hn)) (fun c1 => (pm_g_X8_known_10 hP hn)))
abbrev rm_X8_known : Room := { frames := 5, cells := 0, slots := 0, locals := 109 }
theorem nz_g_X8_known_39 {σ : PS} {y1 : Int32} {y2 : Int32} {y3 : Int32} {y4 : Int64} : NZ (g_X8_known_39 σ y1 y2 y3 y4).2 := (nzI2 (nzI2 (nzI2 (nzI2 (nzI2 (nzI2 nz_X8_cursor nz1) (nzI2 nz1 (nzI2 nz1 nz1))) (nzI2 nz1 (nzI2 nz1 nz1))) (nzI2 nz1 (nzI2 nz1 nz1))) (nzI2 nz1 nz1)) nz1)
theorem nz_g_X8_known_10 {σ : PS} {y1 : Int32} {y2 : Int32} {y3 : Int32} {k0 : Int64} : NZ (g_X8_known_10 σ y1 y2 y3 k0).2 := (nzI2 (nzI2 nz_X8_paging nz_g_X8_known_39) nz_g_X8_known_39)
theorem nz_X8_known {σ0 : PS} {x1 : Int32} {x2 : Int32} {x3 : Int32} : NZ (f_X8_known σ0 x1 x2 x3).2 := (nzI2 nz_g_X8_known_10 nz_g_X8_known_10)
set_option maxHeartbeats 4000000 in
set_option maxRecDepth 100000 in
theorem c_X8_known (l : Launch) (D : va_G) (a : Nat → Nat) (cA : Nat → ClassId) (σ0 : PS) (x1 : Int32) (x2 : Int32) (x3 : Int32) (hI : Bm σ0) (hp : 0 ≤ (σ0.1 27).toInt) : CI l yX8_known cX8_known 8 .boolean rm_X8_known D (mdT cA) [.ref (a 0), .int x1, .int x2, .int x3] (mdW a cA σ0) (mdW a cA (f_X8_known σ0 x1 x2 x3).1) (f_X8_known σ0 x1 x2 x3).2 := by
  refine en_i (by decide +kernel) (Nat.le_of_ble_eq_true rfl) nz_X8_known ?_
  intro p e s m args below meth c A ls Q K hw hl ret
  have hl : lv_has ls 8 [(0, .ref (a 0)), (1, .int x1), (2, .int x2), (3, .int x3)] := hl
  have J39 : ∀ (σ : PS) (y1 : Int32) (y2 : Int32) (y3 : Int32) (y4 : Int64) (H : Heap) (locs : List Loc) (ls : Array Slot), WD D A s.heap (mdW a cA σ) H locs → lv_has ls 8 [(0, .ref (a 0)), (1, .int y1), (2, .int y2), (3, .int y3), (4, .long y4)] → Bm σ → f_X8_known σ0 x1 x2 x3 = g_X8_known_39 σ y1 y2 y3 y4 → W p l e rm_X8_known s m args below meth c H locs 0 0 Q (F0 m 39 ls []) := by
    intro σ y1 y2 y3 y4 H locs ls hw hl hI e0
    refine lv_aload_n K.1 K.2.1 dX8_known_39 rfl (lv_at hl 0 rfl) ?_
    refine lv_bipush (v := 38) K.1 K.2.1 dX8_known_40 (by decide) ?_
    refine lv_bipush (v := 107) K.1 K.2.1 dX8_known_42 (by decide) ?_
    refine lv_bipush (v := 72) K.1 K.2.1 dX8_known_44 (by decide) ?_
    refine lv_iload_n K.1 K.2.1 dX8_known_46 rfl (lv_at hl 1 rfl) ?_
    refine caI K hw (c_X8_is l D a cA _ _ _ _ _) hl.1 (tt_V km_X8_215 kI_X8_is ks_X8_is ki_X8 kC_X8_is) 0 (ci := 8) rfl rfl rfl (na := 4) rfl (by decide +kernel) ⟨rfl, rfl⟩ (by decide) ⟨Nat.zero_le _, Nat.zero_le _⟩ rfl (Nat.le_of_ble_eq_true rfl) dX8_known_47 (fun H locs hw => ?_)
    refine lv_if_eq (tgt := 74) K.1 K.2.1 dX8_known_50 (by decide) (fun c50 => ?_) (fun c50 => ?_)
    · refine lv_aload_n K.1 K.2.1 dX8_known_74 rfl (lv_at hl 0 rfl) ?_
      refine lv_bipush (v := 38) K.1 K.2.1 dX8_known_75 (by decide) ?_
      refine lv_bipush (v := 107) K.1 K.2.1 dX8_known_77 (by decide) ?_
      refine lv_bipush (v := 71) K.1 K.2.1 dX8_known_79 (by decide) ?_
      refine lv_iload_n K.1 K.2.1 dX8_known_81 rfl (lv_at hl 1 rfl) ?_
      refine caI K hw (c_X8_is l D a cA _ _ _ _ _) hl.1 (tt_V km_X8_215 kI_X8_is ks_X8_is ki_X8 kC_X8_is) 0 (ci := 8) rfl rfl rfl (na := 4) rfl (by decide +kernel) ⟨rfl, rfl⟩ (by decide) ⟨Nat.zero_le _, Nat.zero_le _⟩ rfl (Nat.le_of_ble_eq_true rfl) dX8_known_82 (fun H locs hw => ?_)
      refine lv_if_eq (tgt := 114) K.1 K.2.1 dX8_known_85 (by decide) (fun c85 => ?_) (fun c85 => ?_)
      · refine lv_aload_n K.1 K.2.1 dX8_known_114 rfl (lv_at hl 0 rfl) ?_
        refine lv_bipush (v := 38) K.1 K.2.1 dX8_known_115 (by decide) ?_
        refine lv_bipush (v := 97) K.1 K.2.1 dX8_known_117 (by decide) ?_
        refine lv_bipush (v := 76) K.1 K.2.1 dX8_known_119 (by decide) ?_
        refine lv_iload_n K.1 K.2.1 dX8_known_121 rfl (lv_at hl 1 rfl) ?_
        refine caI K hw (c_X8_is l D a cA _ _ _ _ _) hl.1 (tt_V km_X8_215 kI_X8_is ks_X8_is ki_X8 kC_X8_is) 0 (ci := 8) rfl rfl rfl (na := 4) rfl (by decide +kernel) ⟨rfl, rfl⟩ (by decide) ⟨Nat.zero_le _, Nat.zero_le _⟩ rfl (Nat.le_of_ble_eq_true rfl) dX8_known_122 (fun H locs hw => ?_)
        refine lv_if_eq (tgt := 204) K.1 K.2.1 dX8_known_125 (by decide) (fun c125 => ?_) (fun c125 => ?_)
        · refine lv_aload_n K.1 K.2.1 dX8_known_204 rfl (lv_at hl 0 rfl) ?_
          refine lv_bipush (v := 38) K.1 K.2.1 dX8_known_205 (by decide) ?_
          refine lv_bipush (v := 97) K.1 K.2.1 dX8_known_207 (by decide) ?_
          refine lv_bipush (v := 77) K.1 K.2.1 dX8_known_209 (by decide) ?_
          refine lv_iload_n K.1 K.2.1 dX8_known_211 rfl (lv_at hl 1 rfl) ?_
          refine caI K hw (c_X8_is l D a cA _ _ _ _ _) hl.1 (tt_V km_X8_215 kI_X8_is ks_X8_is ki_X8 kC_X8_is) 0 (ci := 8) rfl rfl rfl (na := 4) rfl (by decide +kernel) ⟨rfl, rfl⟩ (by decide) ⟨Nat.zero_le _, Nat.zero_le _⟩ rfl (Nat.le_of_ble_eq_true rfl) dX8_known_212 (fun H locs hw => ?_)
          refine lv_if_eq (tgt := 300) K.1 K.2.1 dX8_known_215 (by decide) (fun c215 => ?_) (fun c215 => ?_)
          · refine lv_aload_n K.1 K.2.1 dX8_known_300 rfl (lv_at hl 0 rfl) ?_
            refine lv_bipush (v := 38) K.1 K.2.1 dX8_known_301 (by decide) ?_
            refine lv_bipush (v := 115) K.1 K.2.1 dX8_known_303 (by decide) ?_
            refine lv_bipush (v := 67) K.1 K.2.1 dX8_known_305 (by decide) ?_
            refine lv_iload_n K.1 K.2.1 dX8_known_307 rfl (lv_at hl 1 rfl) ?_
            refine caI K hw (c_X8_is l D a cA _ _ _ _ _) hl.1 (tt_V km_X8_215 kI_X8_is ks_X8_is ki_X8 kC_X8_is) 0 (ci := 8) rfl rfl rfl (na := 4) rfl (by decide +kernel) ⟨rfl, rfl⟩ (by decide) ⟨Nat.zero_le _, Nat.zero_le _⟩ rfl (Nat.le_of_ble_eq_true rfl) dX8_known_308 (fun H locs hw => ?_)
            refine lv_if_eq (tgt := 348) K.1 K.2.1 dX8_known_311 (by decide) (fun c311 => ?_) (fun c311 => ?_)
            · refine lv_aload_n K.1 K.2.1 dX8_known_348 rfl (lv_at hl 0 rfl) ?_
              refine lv_bipush (v := 38) K.1 K.2.1 dX8_known_349 (by decide) ?_
              refine lv_bipush (v := 102) K.1 K.2.1 dX8_known_351 (by decide) ?_
              refine lv_bipush (v := 83) K.1 K.2.1 dX8_known_353 (by decide) ?_
              refine lv_iload_n K.1 K.2.1 dX8_known_355 rfl (lv_at hl 1 rfl) ?_
              refine caI K hw (c_X8_is l D a cA _ _ _ _ _) hl.1 (tt_V km_X8_215 kI_X8_is ks_X8_is ki_X8 kC_X8_is) 0 (ci := 8) rfl rfl rfl (na := 4) rfl (by decide +kernel) ⟨rfl, rfl⟩ (by decide) ⟨Nat.zero_le _, Nat.zero_le _⟩ rfl (Nat.le_of_ble_eq_true rfl) dX8_known_356 (fun H locs hw => ?_)
              refine lv_if_eq (tgt := 370) K.1 K.2.1 dX8_known_359 (by decide) (fun c359 => ?_) (fun c359 => ?_)
              · refine lv_aload_n K.1 K.2.1 dX8_known_370 rfl (lv_at hl 0 rfl) ?_
                refine lv_iload_n K.1 K.2.1 dX8_known_371 rfl (lv_at hl 1 rfl) ?_
                refine lv_iload_n K.1 K.2.1 dX8_known_372 rfl (lv_at hl 2 rfl) ?_
                refine lv_lload K.1 K.2.1 dX8_known_373 (lv_at hl 4 rfl) ?_
                refine caI K hw (c_X8_cursor l D a cA _ _ _ _) hl.1 (tt_V km_X8_226 kI_X8_cursor ks_X8_cursor ki_X8 kC_X8_cursor) 0 (ci := 8) rfl rfl rfl (na := 3) rfl (by decide +kernel) ⟨rfl, rfl⟩ (by decide) ⟨Nat.zero_le _, Nat.zero_le _⟩ rfl (Nat.le_of_ble_eq_true rfl) dX8_known_375 (fun H locs hw => ?_)
                obtain ⟨s375, es375, hw⟩ := nmM hw
                have hI375 : Bm s375 := by rw [es375]; exact bm_X8_cursor hI
                have eq9 : f_X8_known σ0 x1 x2 x3 = (s375, (f_X8_cursor σ y1 y2 y4).2) := (by subst es375; exact (Eq.trans e0 (Eq.trans (if_pos c50) (Eq.trans (if_pos c85) (Eq.trans (if_pos c125) (Eq.trans (if_pos c215) (Eq.trans (if_pos c311) (Eq.trans (if_pos c359) rfl))))))))
                exact ret (congrArg (fun z => mdW a cA z.1) eq9) (congrArg (fun z => z.2) eq9) hw dX8_known_378
              · refine lv_aload_n K.1 K.2.1 dX8_known_362 rfl (lv_at hl 0 rfl) ?_
                refine lv_iload_n K.1 K.2.1 dX8_known_363 rfl (lv_at hl 3 rfl) ?_
                refine caV K hw (c_X8_stack l D a cA _ _ hI) hl.1 (tt_V km_X8_223 kI_X8_stack ks_X8_stack ki_X8 kC_X8_stack) 0 (ci := 8) rfl rfl rfl (na := 1) rfl (by decide +kernel) ⟨rfl, rfl⟩ (by decide) ⟨Nat.zero_le _, Nat.zero_le _⟩ rfl (Nat.le_of_ble_eq_true rfl) dX8_known_364 (fun H locs hw => ?_)
                obtain ⟨s364, es364, hw⟩ := nmM hw
                have hI364 : Bm s364 := by rw [es364]; exact bm_X8_stack hI
                refine lv_goto (tgt := 379) K.1 K.2.1 dX8_known_367 (by decide) ?_
                refine lv_iconst (v := 1) K.1 K.2.1 dX8_known_379 (by decide) ?_
                have eq9 : f_X8_known σ0 x1 x2 x3 = (s364, 1) := (by subst es364; exact (Eq.trans e0 (Eq.trans (if_pos c50) (Eq.trans (if_pos c85) (Eq.trans (if_pos c125) (Eq.trans (if_pos c215) (Eq.trans (if_pos c311) (Eq.trans (if_neg c359) rfl))))))))
                exact ret (congrArg (fun z => mdW a cA z.1) eq9) (congrArg (fun z => z.2) eq9) hw dX8_known_380
            · refine lv_aload_n K.1 K.2.1 dX8_known_314 rfl (lv_at hl 0 rfl) ?_
              refine gM_0_1 K hw kf_X8_7 dX8_known_315 ?_
              refine lv_bipush (v := 8) K.1 K.2.1 dX8_known_318 (by decide) ?_
              refine lv_iload_n K.1 K.2.1 dX8_known_320 rfl (lv_at hl 3 rfl) ?_
              refine lv_if_ne (tgt := 328) K.1 K.2.1 dX8_known_321 (by decide) (fun c321 => ?_) (fun c321 => ?_)
              · refine lv_iload_n K.1 K.2.1 dX8_known_328 rfl (lv_at hl 3 rfl) ?_
                refine lv_iconst (v := 1) K.1 K.2.1 dX8_known_329 (by decide) ?_
                refine lv_icmp_ne (tgt := 337) K.1 K.2.1 dX8_known_330 (by decide) (fun c330 => ?_) (fun c330 => ?_)
                · refine lv_aload_n K.1 K.2.1 dX8_known_337 rfl (lv_at hl 0 rfl) ?_
                  refine gM_0_1 K hw kf_X8_7 dX8_known_338 ?_
                  refine lv_bipush (v := 8) K.1 K.2.1 dX8_known_341 (by decide) ?_
                  refine lM_1 K hw (vi_8 (by decide)) cl_8 dX8_known_343 ?_
                  refine sM_1 K hw (vi_8 (by decide)) cl_8 dX8_known_344 (fun H locs hw => ?_)
                  refine lv_goto (tgt := 379) K.1 K.2.1 dX8_known_345 (by decide) ?_
                  refine lv_iconst (v := 1) K.1 K.2.1 dX8_known_379 (by decide) ?_
                  have eq9 : f_X8_known σ0 x1 x2 x3 = ((upA σ 0 8 (σ.2.1 0 8)), 1) := (by exact (Eq.trans e0 (Eq.trans (if_pos c50) (Eq.trans (if_pos c85) (Eq.trans (if_pos c125) (Eq.trans (if_pos c215) (Eq.trans (if_neg c311) (Eq.trans (if_neg c321) (Eq.trans (if_neg c330) rfl)))))))))
                  exact ret (congrArg (fun z => mdW a cA z.1) eq9) (congrArg (fun z => z.2) eq9) hw dX8_known_380
                · refine lv_iconst (v := 0) K.1 K.2.1 dX8_known_333 (by decide) ?_
                  refine lv_goto (tgt := 344) K.1 K.2.1 dX8_known_334 (by decide) ?_
                  refine sM_1 K hw (vi_8 (by decide)) cl_8 dX8_known_344 (fun H locs hw => ?_)
                  refine lv_goto (tgt := 379) K.1 K.2.1 dX8_known_345 (by decide) ?_
                  refine lv_iconst (v := 1) K.1 K.2.1 dX8_known_379 (by decide) ?_
                  have eq9 : f_X8_known σ0 x1 x2 x3 = ((upA σ 0 8 0), 1) := (by exact (Eq.trans e0 (Eq.trans (if_pos c50) (Eq.trans (if_pos c85) (Eq.trans (if_pos c125) (Eq.trans (if_pos c215) (Eq.trans (if_neg c311) (Eq.trans (if_neg c321) (Eq.trans (if_pos c330) rfl)))))))))
                  exact ret (congrArg (fun z => mdW a cA z.1) eq9) (congrArg (fun z => z.2) eq9) hw dX8_known_380
              · refine lv_iconst (v := 1) K.1 K.2.1 dX8_known_324 (by decide) ?_
                refine lv_goto (tgt := 344) K.1 K.2.1 dX8_known_325 (by decide) ?_
                refine sM_1 K hw (vi_8 (by decide)) cl_8 dX8_known_344 (fun H locs hw => ?_)
                refine lv_goto (tgt := 379) K.1 K.2.1 dX8_known_345 (by decide) ?_
                refine lv_iconst (v := 1) K.1 K.2.1 dX8_known_379 (by decide) ?_
                have eq9 : f_X8_known σ0 x1 x2 x3 = ((upA σ 0 8 1), 1) := (by exact (Eq.trans e0 (Eq.trans (if_pos c50) (Eq.trans (if_pos c85) (Eq.trans (if_pos c125) (Eq.trans (if_pos c215) (Eq.trans (if_neg c311) (Eq.trans (if_pos c321) rfl))))))))
                exact ret (congrArg (fun z => mdW a cA z.1) eq9) (congrArg (fun z => z.2) eq9) hw dX8_known_380
          · refine lv_iload_n K.1 K.2.1 dX8_known_218 rfl (lv_at hl 3 rfl) ?_
            refine lv_i2l K.1 K.2.1 dX8_known_219 rfl ?_
            refine lv_lconst (v := 1) K.1 K.2.1 dX8_known_220 (by decide) ?_
            refine lv_ladd K.1 K.2.1 dX8_known_221 ?_
            refine lv_aload_n K.1 K.2.1 dX8_known_222 rfl (lv_at hl 0 rfl) ?_
            refine gM_0_1 K hw kf_X8_7 dX8_known_223 ?_
            refine lv_bipush (v := 6) K.1 K.2.1 dX8_known_226 (by decide) ?_
            refine lM_1 K hw (vi_6 (by decide)) cl_6 dX8_known_228 ?_
            refine lv_i2l K.1 K.2.1 dX8_known_229 rfl ?_
            refine lv_lmul K.1 K.2.1 dX8_known_230 ?_
            refine lv_topl (fun x6_231 ex6_231 => ?_)
            refine lv_lstore (lv' := [(6, .long x6_231), (0, .ref (a 0)), (1, .int y1), (2, .int y2), (3, .int y3), (4, .long y4)]) K.1 K.2.1 dX8_known_231 hl (by decide) rfl (fun ls hl => ?_)
            refine lv_lload K.1 K.2.1 dX8_known_233 (lv_at hl 0 rfl) ?_
            refine lv_aload_n K.1 K.2.1 dX8_known_235 rfl (lv_at hl 1 rfl) ?_
            refine gM_0_1 K hw kf_X8_7 dX8_known_236 ?_
            refine lv_iconst (v := 2) K.1 K.2.1 dX8_known_239 (by decide) ?_
            refine lM_1 K hw (vi_2 (by decide)) cl_2 dX8_known_240 ?_
            refine lv_i2l K.1 K.2.1 dX8_known_241 rfl ?_
            refine lc_le (tgt := 297) K dX8_known_242 dX8_known_243 (by decide) (fun c242 => ?_) (fun c242 => ?_)
            · refine lv_goto (tgt := 379) K.1 K.2.1 dX8_known_297 (by decide) ?_
              refine lv_iconst (v := 1) K.1 K.2.1 dX8_known_379 (by decide) ?_
              have eq9 : f_X8_known σ0 x1 x2 x3 = (σ, 1) := (by subst ex6_231; exact (Eq.trans e0 (Eq.trans (if_pos c50) (Eq.trans (if_pos c85) (Eq.trans (if_pos c125) (Eq.trans (if_neg c215) (Eq.trans (if_pos c242) rfl)))))))
              exact ret (congrArg (fun z => mdW a cA z.1) eq9) (congrArg (fun z => z.2) eq9) hw dX8_known_380
            · refine lv_aload_n K.1 K.2.1 dX8_known_246 rfl (lv_at hl 1 rfl) ?_
              refine gM_0_1 K hw kf_X8_7 dX8_known_247 ?_
              refine lv_iconst (v := 3) K.1 K.2.1 dX8_known_250 (by decide) ?_
              refine lv_lload K.1 K.2.1 dX8_known_251 (lv_at hl 0 rfl) ?_
              refine lv_aload_n K.1 K.2.1 dX8_known_253 rfl (lv_at hl 1 rfl) ?_
              refine gM_0_7 K hw kf_X8_64 dX8_known_254 ?_
              refine caS K hw (c_X8_within l D a cA _ _ _) hl.1 km_X8_70 kS_X8_within ki_X8 kC_X8_within (na := 2) rfl (by decide +kernel) ⟨rfl, rfl⟩ (by decide) ⟨Nat.zero_le _, Nat.zero_le _⟩ rfl (Nat.le_of_ble_eq_true rfl) dX8_known_257 (fun H locs hw => ?_)
              refine sM_1 K hw (vi_3 (by decide)) cl_3 dX8_known_260 (fun H locs hw => ?_)
              refine lv_aload_n K.1 K.2.1 dX8_known_261 rfl (lv_at hl 1 rfl) ?_
              refine gM_0_1 K hw kf_X8_7 dX8_known_262 ?_
              refine lv_iconst (v := 0) K.1 K.2.1 dX8_known_265 (by decide) ?_
              refine lv_aload_n K.1 K.2.1 dX8_known_266 rfl (lv_at hl 1 rfl) ?_
              refine gM_0_1 K hw kf_X8_7 dX8_known_267 ?_
              refine lv_iconst (v := 0) K.1 K.2.1 dX8_known_270 (by decide) ?_
              refine lM_1 K hw (vi_0 (by decide)) cl_0 dX8_known_271 ?_
              refine lv_aload_n K.1 K.2.1 dX8_known_272 rfl (lv_at hl 1 rfl) ?_
              refine gM_0_1 K hw kf_X8_7 dX8_known_273 ?_
              refine lv_iconst (v := 3) K.1 K.2.1 dX8_known_276 (by decide) ?_
              refine lM_1 K hw (vi_3 (by decide)) cl_3 dX8_known_277 ?_
              refine lv_icmp_le (tgt := 290) K.1 K.2.1 dX8_known_278 (by decide) (fun c278 => ?_) (fun c278 => ?_)
              · refine lv_aload_n K.1 K.2.1 dX8_known_290 rfl (lv_at hl 1 rfl) ?_
                refine gM_0_1 K hw kf_X8_7 dX8_known_291 ?_
                refine lv_iconst (v := 0) K.1 K.2.1 dX8_known_294 (by decide) ?_
                refine lM_1 K hw (vi_0 (by decide)) cl_0 dX8_known_295 ?_
                refine sM_1 K hw (vi_0 (by decide)) cl_0 dX8_known_296 (fun H locs hw => ?_)
                refine lv_goto (tgt := 379) K.1 K.2.1 dX8_known_297 (by decide) ?_
                refine lv_iconst (v := 1) K.1 K.2.1 dX8_known_379 (by decide) ?_
                have eq9 : f_X8_known σ0 x1 x2 x3 = ((upA (upA σ 0 3 (f_X8_within x6_231 (σ.1 7))) 0 0 (σ.2.1 0 0)), 1) := (by subst ex6_231; exact (Eq.trans e0 (Eq.trans (if_pos c50) (Eq.trans (if_pos c85) (Eq.trans (if_pos c125) (Eq.trans (if_neg c215) (Eq.trans (if_neg c242) (Eq.trans (if_pos c278) rfl))))))))
                exact ret (congrArg (fun z => mdW a cA z.1) eq9) (congrArg (fun z => z.2) eq9) hw dX8_known_380
              · refine lv_aload_n K.1 K.2.1 dX8_known_281 rfl (lv_at hl 1 rfl) ?_
                refine gM_0_1 K hw kf_X8_7 dX8_known_282 ?_
                refine lv_iconst (v := 3) K.1 K.2.1 dX8_known_285 (by decide) ?_
                refine lM_1 K hw (vi_3 (by decide)) cl_3 dX8_known_286 ?_
                refine lv_goto (tgt := 296) K.1 K.2.1 dX8_known_287 (by decide) ?_
                refine sM_1 K hw (vi_0 (by decide)) cl_0 dX8_known_296 (fun H locs hw => ?_)
                refine lv_goto (tgt := 379) K.1 K.2.1 dX8_known_297 (by decide) ?_
                refine lv_iconst (v := 1) K.1 K.2.1 dX8_known_379 (by decide) ?_
                have eq9 : f_X8_known σ0 x1 x2 x3 = ((upA (upA σ 0 3 (f_X8_within x6_231 (σ.1 7))) 0 0 (f_X8_within x6_231 (σ.1 7))), 1) := (by subst ex6_231; exact (Eq.trans e0 (Eq.trans (if_pos c50) (Eq.trans (if_pos c85) (Eq.trans (if_pos c125) (Eq.trans (if_neg c215) (Eq.trans (if_neg c242) (Eq.trans (if_neg c278) rfl))))))))
                exact ret (congrArg (fun z => mdW a cA z.1) eq9) (congrArg (fun z => z.2) eq9) hw dX8_known_380
        · refine lv_iload_n K.1 K.2.1 dX8_known_128 rfl (lv_at hl 3 rfl) ?_
          refine lv_i2l K.1 K.2.1 dX8_known_129 rfl ?_
          refine lv_aload_n K.1 K.2.1 dX8_known_130 rfl (lv_at hl 0 rfl) ?_
          refine gM_0_1 K hw kf_X8_7 dX8_known_131 ?_
          refine lv_bipush (v := 6) K.1 K.2.1 dX8_known_134 (by decide) ?_
          refine lM_1 K hw (vi_6 (by decide)) cl_6 dX8_known_136 ?_
          refine lv_i2l K.1 K.2.1 dX8_known_137 rfl ?_
          refine lv_lmul K.1 K.2.1 dX8_known_138 ?_
          refine lv_aload_n K.1 K.2.1 dX8_known_139 rfl (lv_at hl 0 rfl) ?_
          refine gM_0_1 K hw kf_X8_7 dX8_known_140 ?_
          refine lv_iconst (v := 3) K.1 K.2.1 dX8_known_143 (by decide) ?_
          refine lM_1 K hw (vi_3 (by decide)) cl_3 dX8_known_144 ?_
          refine lv_i2l K.1 K.2.1 dX8_known_145 rfl ?_
          refine lc_ge (tgt := 379) K dX8_known_146 dX8_known_147 (by decide) (fun c146 => ?_) (fun c146 => ?_)
          · refine lv_iconst (v := 1) K.1 K.2.1 dX8_known_379 (by decide) ?_
            have eq9 : f_X8_known σ0 x1 x2 x3 = (σ, 1) := (by exact (Eq.trans e0 (Eq.trans (if_pos c50) (Eq.trans (if_pos c85) (Eq.trans (if_neg c125) (Eq.trans (if_pos c146) rfl))))))
            exact ret (congrArg (fun z => mdW a cA z.1) eq9) (congrArg (fun z => z.2) eq9) hw dX8_known_380
          · refine lv_aload_n K.1 K.2.1 dX8_known_150 rfl (lv_at hl 0 rfl) ?_
            refine gM_0_1 K hw kf_X8_7 dX8_known_151 ?_
            refine lv_iconst (v := 2) K.1 K.2.1 dX8_known_154 (by decide) ?_
            refine lv_iload_n K.1 K.2.1 dX8_known_155 rfl (lv_at hl 3 rfl) ?_
            refine lv_aload_n K.1 K.2.1 dX8_known_156 rfl (lv_at hl 0 rfl) ?_
            refine gM_0_1 K hw kf_X8_7 dX8_known_157 ?_
            refine lv_bipush (v := 6) K.1 K.2.1 dX8_known_160 (by decide) ?_
            refine lM_1 K hw (vi_6 (by decide)) cl_6 dX8_known_162 ?_
            refine lv_imul K.1 K.2.1 dX8_known_163 ?_
            refine sM_1 K hw (vi_2 (by decide)) cl_2 dX8_known_164 (fun H locs hw => ?_)
            refine lv_aload_n K.1 K.2.1 dX8_known_165 rfl (lv_at hl 0 rfl) ?_
            refine gM_0_1 K hw kf_X8_7 dX8_known_166 ?_
            refine lv_iconst (v := 0) K.1 K.2.1 dX8_known_169 (by decide) ?_
            refine lv_aload_n K.1 K.2.1 dX8_known_170 rfl (lv_at hl 0 rfl) ?_
            refine gM_0_1 K hw kf_X8_7 dX8_known_171 ?_
            refine lv_iconst (v := 0) K.1 K.2.1 dX8_known_174 (by decide) ?_
            refine lM_1 K hw (vi_0 (by decide)) cl_0 dX8_known_175 ?_
            refine lv_aload_n K.1 K.2.1 dX8_known_176 rfl (lv_at hl 0 rfl) ?_
            refine gM_0_1 K hw kf_X8_7 dX8_known_177 ?_
            refine lv_iconst (v := 2) K.1 K.2.1 dX8_known_180 (by decide) ?_
            refine lM_1 K hw (vi_2 (by decide)) cl_2 dX8_known_181 ?_
            refine lv_icmp_ge (tgt := 194) K.1 K.2.1 dX8_known_182 (by decide) (fun c182 => ?_) (fun c182 => ?_)
            · refine lv_aload_n K.1 K.2.1 dX8_known_194 rfl (lv_at hl 0 rfl) ?_
              refine gM_0_1 K hw kf_X8_7 dX8_known_195 ?_
              refine lv_iconst (v := 0) K.1 K.2.1 dX8_known_198 (by decide) ?_
              refine lM_1 K hw (vi_0 (by decide)) cl_0 dX8_known_199 ?_
              refine sM_1 K hw (vi_0 (by decide)) cl_0 dX8_known_200 (fun H locs hw => ?_)
              refine lv_goto (tgt := 379) K.1 K.2.1 dX8_known_201 (by decide) ?_
              refine lv_iconst (v := 1) K.1 K.2.1 dX8_known_379 (by decide) ?_
              have eq9 : f_X8_known σ0 x1 x2 x3 = ((upA (upA σ 0 2 (y3 * (σ.2.1 0 6))) 0 0 (σ.2.1 0 0)), 1) := (by exact (Eq.trans e0 (Eq.trans (if_pos c50) (Eq.trans (if_pos c85) (Eq.trans (if_neg c125) (Eq.trans (if_neg c146) (Eq.trans (if_pos c182) rfl)))))))
              exact ret (congrArg (fun z => mdW a cA z.1) eq9) (congrArg (fun z => z.2) eq9) hw dX8_known_380
            · refine lv_aload_n K.1 K.2.1 dX8_known_185 rfl (lv_at hl 0 rfl) ?_
              refine gM_0_1 K hw kf_X8_7 dX8_known_186 ?_
              refine lv_iconst (v := 2) K.1 K.2.1 dX8_known_189 (by decide) ?_
              refine lM_1 K hw (vi_2 (by decide)) cl_2 dX8_known_190 ?_
              refine lv_goto (tgt := 200) K.1 K.2.1 dX8_known_191 (by decide) ?_
              refine sM_1 K hw (vi_0 (by decide)) cl_0 dX8_known_200 (fun H locs hw => ?_)
              refine lv_goto (tgt := 379) K.1 K.2.1 dX8_known_201 (by decide) ?_
              refine lv_iconst (v := 1) K.1 K.2.1 dX8_known_379 (by decide) ?_
              have eq9 : f_X8_known σ0 x1 x2 x3 = ((upA (upA σ 0 2 (y3 * (σ.2.1 0 6))) 0 0 (y3 * (σ.2.1 0 6))), 1) := (by exact (Eq.trans e0 (Eq.trans (if_pos c50) (Eq.trans (if_pos c85) (Eq.trans (if_neg c125) (Eq.trans (if_neg c146) (Eq.trans (if_neg c182) rfl)))))))
              exact ret (congrArg (fun z => mdW a cA z.1) eq9) (congrArg (fun z => z.2) eq9) hw dX8_known_380
      · refine lv_aload_n K.1 K.2.1 dX8_known_88 rfl (lv_at hl 0 rfl) ?_
        refine gM_0_1 K hw kf_X8_7 dX8_known_89 ?_
        refine lv_bipush (v := 10) K.1 K.2.1 dX8_known_92 (by decide) ?_
        refine lv_iload_n K.1 K.2.1 dX8_known_94 rfl (lv_at hl 3 rfl) ?_
        refine lv_iconst (v := 4) K.1 K.2.1 dX8_known_95 (by decide) ?_
        refine lv_icmp_ge (tgt := 103) K.1 K.2.1 dX8_known_96 (by decide) (fun c96 => ?_) (fun c96 => ?_)
        · refine lv_aload_n K.1 K.2.1 dX8_known_103 rfl (lv_at hl 0 rfl) ?_
          refine gM_0_1 K hw kf_X8_7 dX8_known_104 ?_
          refine lv_bipush (v := 10) K.1 K.2.1 dX8_known_107 (by decide) ?_
          refine lM_1 K hw (vi_10 (by decide)) cl_10 dX8_known_109 ?_
          refine sM_1 K hw (vi_10 (by decide)) cl_10 dX8_known_110 (fun H locs hw => ?_)
          refine lv_goto (tgt := 379) K.1 K.2.1 dX8_known_111 (by decide) ?_
          refine lv_iconst (v := 1) K.1 K.2.1 dX8_known_379 (by decide) ?_
          have eq9 : f_X8_known σ0 x1 x2 x3 = ((upA σ 0 10 (σ.2.1 0 10)), 1) := (by exact (Eq.trans e0 (Eq.trans (if_pos c50) (Eq.trans (if_neg c85) (Eq.trans (if_pos c96) rfl)))))
          exact ret (congrArg (fun z => mdW a cA z.1) eq9) (congrArg (fun z => z.2) eq9) hw dX8_known_380
        · refine lv_iload_n K.1 K.2.1 dX8_known_99 rfl (lv_at hl 3 rfl) ?_
          refine lv_goto (tgt := 110) K.1 K.2.1 dX8_known_100 (by decide) ?_
          refine sM_1 K hw (vi_10 (by decide)) cl_10 dX8_known_110 (fun H locs hw => ?_)
          refine lv_goto (tgt := 379) K.1 K.2.1 dX8_known_111 (by decide) ?_
          refine lv_iconst (v := 1) K.1 K.2.1 dX8_known_379 (by decide) ?_
          have eq9 : f_X8_known σ0 x1 x2 x3 = ((upA σ 0 10 y3), 1) := (by exact (Eq.trans e0 (Eq.trans (if_pos c50) (Eq.trans (if_neg c85) (Eq.trans (if_neg c96) rfl)))))
          exact ret (congrArg (fun z => mdW a cA z.1) eq9) (congrArg (fun z => z.2) eq9) hw dX8_known_380
    · refine lv_aload_n K.1 K.2.1 dX8_known_53 rfl (lv_at hl 0 rfl) ?_
      refine gM_0_1 K hw kf_X8_7 dX8_known_54 ?_
      refine lv_bipush (v := 6) K.1 K.2.1 dX8_known_57 (by decide) ?_
      refine lv_ldc2 K.1 K.2.1 K.2.2.2.1 (K.2.2.1 _ kc_X8_219) dX8_known_59 ?_
      refine lv_lload K.1 K.2.1 dX8_known_62 (lv_at hl 4 rfl) ?_
      refine lv_lmul K.1 K.2.1 dX8_known_64 ?_
      refine lv_ldc2 K.1 K.2.1 K.2.2.2.1 (K.2.2.1 _ kc_X8_221) dX8_known_65 ?_
      refine lv_ldiv K.1 K.2.1 dX8_known_68 (by decide) ?_
      refine lv_l2i K.1 K.2.1 dX8_known_69 rfl ?_
      refine sM_1 K hw (vi_6 (by decide)) cl_6 dX8_known_70 (fun H locs hw => ?_)
      refine lv_goto (tgt := 379) K.1 K.2.1 dX8_known_71 (by decide) ?_
      refine lv_iconst (v := 1) K.1 K.2.1 dX8_known_379 (by decide) ?_
      have eq9 : f_X8_known σ0 x1 x2 x3 = ((upA σ 0 6 (Int64.toInt32 ((60 * y4) / 10000))), 1) := (by exact (Eq.trans e0 (Eq.trans (if_neg c50) rfl)))
      exact ret (congrArg (fun z => mdW a cA z.1) eq9) (congrArg (fun z => z.2) eq9) hw dX8_known_380
  have J10 : ∀ (σ : PS) (y1 : Int32) (y2 : Int32) (y3 : Int32) (k0 : Int64) (H : Heap) (locs : List Loc) (ls : Array Slot), WD D A s.heap (mdW a cA σ) H locs → lv_has ls 8 [(0, .ref (a 0)), (1, .int y1), (2, .int y2), (3, .int y3)] → Bm σ → 0 ≤ (σ.1 27).toInt → f_X8_known σ0 x1 x2 x3 = g_X8_known_10 σ y1 y2 y3 k0 → W p l e rm_X8_known s m args below meth c H locs 0 0 Q (F0 m 10 ls [.long k0]) := by
    intro σ y1 y2 y3 k0 H locs ls hw hl hI hp e0
    refine lv_lstore (lv' := [(4, .long k0), (0, .ref (a 0)), (1, .int y1), (2, .int y2), (3, .int y3)]) K.1 K.2.1 dX8_known_10 hl (by decide) rfl (fun ls hl => ?_)
    refine lv_aload_n K.1 K.2.1 dX8_known_12 rfl (lv_at hl 1 rfl) ?_
    refine gM_0_11 K hw kf_X8_149 dX8_known_13 ?_
    refine lv_bipush (v := 38) K.1 K.2.1 dX8_known_16 (by decide) ?_
    refine lv_icmp_ne (tgt := 39) K.1 K.2.1 dX8_known_18 (by decide) (fun c18 => ?_) (fun c18 => ?_)
    · exact J39 _ _ _ _ _ _ _ _ hw (lv_sub hl [1, 2, 3, 4, 0] rfl) hI (by exact (Eq.trans e0 (Eq.trans (if_neg c18) rfl)))
    · refine lv_aload_n K.1 K.2.1 dX8_known_21 rfl (lv_at hl 1 rfl) ?_
      refine gM_0_12 K hw kf_X8_152 dX8_known_22 ?_
      refine lv_bipush (v := 108) K.1 K.2.1 dX8_known_25 (by decide) ?_
      refine lv_icmp_ne (tgt := 39) K.1 K.2.1 dX8_known_27 (by decide) (fun c27 => ?_) (fun c27 => ?_)
      · exact J39 _ _ _ _ _ _ _ _ hw (lv_sub hl [1, 2, 3, 4, 0] rfl) hI (by exact (Eq.trans e0 (Eq.trans (if_pos c18) (Eq.trans (if_neg c27) rfl))))
      · refine lv_aload_n K.1 K.2.1 dX8_known_30 rfl (lv_at hl 1 rfl) ?_
        refine lv_iload_n K.1 K.2.1 dX8_known_31 rfl (lv_at hl 2 rfl) ?_
        refine lv_lload K.1 K.2.1 dX8_known_32 (lv_at hl 0 rfl) ?_
        refine lv_iload_n K.1 K.2.1 dX8_known_34 rfl (lv_at hl 4 rfl) ?_
        refine caI K hw (c_X8_paging l D a cA _ _ _ _ hp) hl.1 (tt_V km_X8_211 kI_X8_paging ks_X8_paging ki_X8 kC_X8_paging) 0 (ci := 8) rfl rfl rfl (na := 3) rfl (by decide +kernel) ⟨rfl, rfl⟩ (by decide) ⟨Nat.zero_le _, Nat.zero_le _⟩ rfl (Nat.le_of_ble_eq_true rfl) dX8_known_35 (fun H locs hw => ?_)
        obtain ⟨s35, es35, hw⟩ := nmM hw
        have hI35 : Bm s35 := by rw [es35]; exact bm_X8_paging hI
        have eq9 : f_X8_known σ0 x1 x2 x3 = (s35, (f_X8_paging σ y1 k0 y3).2) := (by subst es35; exact (Eq.trans e0 (Eq.trans (if_pos c18) (Eq.trans (if_pos c27) rfl))))
        exact ret (congrArg (fun z => mdW a cA z.1) eq9) (congrArg (fun z => z.2) eq9) hw dX8_known_38
  refine lv_iload_n K.1 K.2.1 dX8_known_0 rfl (lv_at hl 2 rfl) ?_
  refine lv_if_ge (tgt := 8) K.1 K.2.1 dX8_known_1 (by decide) (fun c1 => ?_) (fun c1 => ?_)
  · refine lv_iload_n K.1 K.2.1 dX8_known_8 rfl (lv_at hl 2 rfl) ?_
    refine lv_i2l K.1 K.2.1 dX8_known_9 rfl ?_
    exact J10 _ _ _ _ _ _ _ _ hw (lv_sub hl [0, 1, 2, 3] rfl) hI hp (by exact (Eq.trans (if_pos c1) rfl))
  · refine lv_lconst (v := 0) K.1 K.2.1 dX8_known_4 (by decide) ?_
    refine lv_goto (tgt := 10) K.1 K.2.1 dX8_known_5 (by decide) ?_
    exact J10 _ _ _ _ _ _ _ _ hw (lv_sub hl [0, 1, 2, 3] rfl) hI hp (by exact (Eq.trans (if_neg c1) rfl))
def g_X8_command_115 (σ : PS) (y2 : Int32) : PS := let s116 : PS := f_X8_beginField σ; (if (s116.1 19) ≤ 0 then (if y2 = 0 then (upS s116 10 3) else (upS s116 10 0)) else (upS s116 10 4))
def g_X8_command_76 (σ : PS) (y1 : Int32) (y2 : Int32) (y3 : Int32) (y4 : Int32) (y5 : Int32) (k0 : Int32) : PS := (if y5 = 0 then (if y5 = 0 then let s103 : PS := (f_X8_known (upS (upS σ 19 k0) 21 0) y1 y3 y4).1; (if (f_X8_known (upS (upS σ 19 k0) 21 0) y1 y3 y4).2 = 0 then let s112 : PS := f_X8_handOn s103 y1 y3; (g_X8_command_115 s112 y2) else (g_X8_command_115 s103 y2)) else (g_X8_command_115 (upS (upS σ 19 k0) 21 0) y2)) else (if y5 = 0 then let s103 : PS := (f_X8_known (upS (upS σ 19 k0) 21 1) y1 y3 y4).1; (if (f_X8_known (upS (upS σ 19 k0) 21 1) y1 y3 y4).2 = 0 then let s112 : PS := f_X8_handOn s103 y1 y3; (g_X8_command_115 s112 y2) else (g_X8_command_115 s103 y2)) else (g_X8_command_115 (upS (upS σ 19 k0) 21 1) y2)))
def g_X8_command_70 (σ : PS) (y1 : Int32) (y2 : Int32) (y3 : Int32) (y4 : Int32) (y5 : Int32) : PS := (g_X8_command_76 σ y1 y2 y3 y4 y5 y4)
def g_X8_command_50 (σ : PS) (y1 : Int32) (y2 : Int32) (y3 : Int32) (y4 : Int32) : PS := (if y1 = 87 then (g_X8_command_70 (upS σ 20 y2) y1 y2 y3 y4 0) else (g_X8_command_76 (upS σ 20 y2) y1 y2 y3 y4 0 0))
def g_X8_command_20 (σ : PS) (y1 : Int32) (y2 : Int32) (y3 : Int32) (k0 : Int32) : PS := (if (σ.1 11) = 38 then (if (σ.1 12) = 112 then (if y1 = 88 then (if y1 = 87 then (g_X8_command_70 (upS σ 20 y2) y1 y2 y3 k0 1) else (g_X8_command_70 (upS σ 20 y2) y1 y2 y3 k0 1)) else (g_X8_command_50 σ y1 y2 y3 k0)) else (g_X8_command_50 σ y1 y2 y3 k0)) else (g_X8_command_50 σ y1 y2 y3 k0))
def f_X8_command (σ0 : PS) (x1 : Int32) (x2 : Int32) : PS := let x3_4 : Int32 := (f_X8_value σ0); (if (σ0.1 15) = 0 then (g_X8_command_20 σ0 x1 x2 x3_4 (σ0.1 16)) else (g_X8_command_20 σ0 x1 x2 x3_4 0))
theorem bm_g_X8_command_115 {σ : PS} {y2 : Int32} (hI : Bm σ) : Bm (g_X8_command_115 σ y2) := (bxI (fun c124 => (bxI (fun c132 => (bmS_10 (bm_X8_beginField hI))) (fun c132 => (bmS_10 (bm_X8_beginField hI))))) (fun c124 => (bmS_10 (bm_X8_beginField hI))))
theorem bm_g_X8_command_76 {σ : PS} {y1 : Int32} {y2 : Int32} {y3 : Int32} {y4 : Int32} {y5 : Int32} {k0 : Int32} (hI : Bm σ) : Bm (g_X8_command_76 σ y1 y2 y3 y4 y5 k0) := (bxI (fun c82 => (bxI (fun c95 => (bxI (fun c106 => (bm_g_X8_command_115 (bm_X8_handOn (bm_X8_known (bmS_21 (bmS_19 hI)))))) (fun c106 => (bm_g_X8_command_115 (bm_X8_known (bmS_21 (bmS_19 hI))))))) (fun c95 => (bm_g_X8_command_115 (bmS_21 (bmS_19 hI)))))) (fun c82 => (bxI (fun c95 => (bxI (fun c106 => (bm_g_X8_command_115 (bm_X8_handOn (bm_X8_known (bmS_21 (bmS_19 hI)))))) (fun c106 => (bm_g_X8_command_115 (bm_X8_known (bmS_21 (bmS_19 hI))))))) (fun c95 => (bm_g_X8_command_115 (bmS_21 (bmS_19 hI)))))))
theorem bm_g_X8_command_70 {σ : PS} {y1 : Int32} {y2 : Int32} {y3 : Int32} {y4 : Int32} {y5 : Int32} (hI : Bm σ) : Bm (g_X8_command_70 σ y1 y2 y3 y4 y5) := (bm_g_X8_command_76 hI)
theorem bm_g_X8_command_50 {σ : PS} {y1 : Int32} {y2 : Int32} {y3 : Int32} {y4 : Int32} (hI : Bm σ) (hz : 0 ≤ y2.toInt ∧ y2.toInt ≤ 1) : Bm (g_X8_command_50 σ y1 y2 y3 y4) := (bxI (fun c62 => (bm_g_X8_command_70 (bmQ_20 hI hz.1 hz.2))) (fun c62 => (bm_g_X8_command_76 (bmQ_20 hI hz.1 hz.2))))
theorem bm_g_X8_command_20 {σ : PS} {y1 : Int32} {y2 : Int32} {y3 : Int32} {k0 : Int32} (hI : Bm σ) (hz : 0 ≤ y2.toInt ∧ y2.toInt ≤ 1) : Bm (g_X8_command_20 σ y1 y2 y3 k0) := (bxI (fun c28 => (bxI (fun c37 => (bxI (fun c43 => (bxI (fun c62 => (bm_g_X8_command_70 (bmQ_20 hI hz.1 hz.2))) (fun c62 => (bm_g_X8_command_70 (bmQ_20 hI hz.1 hz.2))))) (fun c43 => (bm_g_X8_command_50 hI hz)))) (fun c37 => (bm_g_X8_command_50 hI hz)))) (fun c28 => (bm_g_X8_command_50 hI hz)))
theorem bm_X8_command {σ0 : PS} {x1 : Int32} {x2 : Int32} (hI : Bm σ0) (hz : 0 ≤ x2.toInt ∧ x2.toInt ≤ 1) : Bm (f_X8_command σ0 x1 x2) := (bxI (fun c9 => (bm_g_X8_command_20 hI hz)) (fun c9 => (bm_g_X8_command_20 hI hz)))
theorem pm_g_X8_command_115 {n : Int} {σ : PS} {y2 : Int32} (hP : Pm n σ) : Pm (n) (g_X8_command_115 σ y2) := (bxI (fun c124 => (bxI (fun c132 => (pm_X8_beginField hP)) (fun c132 => (pm_X8_beginField hP)))) (fun c124 => (pm_X8_beginField hP)))
theorem pm_g_X8_command_76 {n : Int} {σ : PS} {y1 : Int32} {y2 : Int32} {y3 : Int32} {y4 : Int32} {y5 : Int32} {k0 : Int32} (hP : Pm n σ) (hn : n ≤ 2147483646) : Pm (n + 1) (g_X8_command_76 σ y1 y2 y3 y4 y5 k0) := (bxI (fun c82 => (bxI (fun c95 => (bxI (fun c106 => (pm_g_X8_command_115 (pm_X8_handOn (pm_X8_known hP hn)))) (fun c106 => (pm_g_X8_command_115 (pm_X8_known hP hn))))) (fun c95 => (pm_w (pm_g_X8_command_115 hP))))) (fun c82 => (bxI (fun c95 => (bxI (fun c106 => (pm_g_X8_command_115 (pm_X8_handOn (pm_X8_known hP hn)))) (fun c106 => (pm_g_X8_command_115 (pm_X8_known hP hn))))) (fun c95 => (pm_w (pm_g_X8_command_115 hP))))))
theorem pm_g_X8_command_70 {n : Int} {σ : PS} {y1 : Int32} {y2 : Int32} {y3 : Int32} {y4 : Int32} {y5 : Int32} (hP : Pm n σ) (hn : n ≤ 2147483646) : Pm (n + 1) (g_X8_command_70 σ y1 y2 y3 y4 y5) := (pm_g_X8_command_76 hP hn)
theorem pm_g_X8_command_50 {n : Int} {σ : PS} {y1 : Int32} {y2 : Int32} {y3 : Int32} {y4 : Int32} (hP : Pm n σ) (hn : n ≤ 2147483646) : Pm (n + 1) (g_X8_command_50 σ y1 y2 y3 y4) := (bxI (fun c62 => (pm_g_X8_command_70 hP hn)) (fun c62 => (pm_g_X8_command_76 hP hn)))
theorem pm_g_X8_command_20 {n : Int} {σ : PS} {y1 : Int32} {y2 : Int32} {y3 : Int32} {k0 : Int32} (hP : Pm n σ) (hn : n ≤ 2147483646) : Pm (n + 1) (g_X8_command_20 σ y1 y2 y3 k0) := (bxI (fun c28 => (bxI (fun c37 => (bxI (fun c43 => (bxI (fun c62 => (pm_g_X8_command_70 hP hn)) (fun c62 => (pm_g_X8_command_70 hP hn)))) (fun c43 => (pm_g_X8_command_50 hP hn)))) (fun c37 => (pm_g_X8_command_50 hP hn)))) (fun c28 => (pm_g_X8_command_50 hP hn)))
theorem pm_X8_command {n : Int} {σ0 : PS} {x1 : Int32} {x2 : Int32} (hP : Pm n σ0) (hn : n ≤ 2147483646) : Pm (n + 1) (f_X8_command σ0 x1 x2) := (bxI (fun c9 => (pm_g_X8_command_20 hP hn)) (fun c9 => (pm_g_X8_command_20 hP hn)))
abbrev rm_X8_command : Room := { frames := 6, cells := 0, slots := 0, locals := 136 }
set_option maxHeartbeats 4000000 in
set_option maxRecDepth 100000 in
theorem c_X8_command (l : Launch) (D : va_G) (a : Nat → Nat) (cA : Nat → ClassId) (σ0 : PS) (x1 : Int32) (x2 : Int32) (hI : Bm σ0) (hp : 0 ≤ (σ0.1 27).toInt) (hz : 0 ≤ x2.toInt ∧ x2.toInt ≤ 1) : CV l yX8_command cX8_command 6 rm_X8_command D (mdT cA) [.ref (a 0), .int x1, .int x2] (mdW a cA σ0) (mdW a cA (f_X8_command σ0 x1 x2)) := by
  refine en_v (by decide +kernel) (Nat.le_of_ble_eq_true rfl) ?_
  intro p e s m args below meth c A ls Q K hw hl ret
  have hl : lv_has ls 6 [(0, .ref (a 0)), (1, .int x1), (2, .int x2)] := hl
  have J115 : ∀ (σ : PS) (y2 : Int32) (H : Heap) (locs : List Loc) (ls : Array Slot), WD D A s.heap (mdW a cA σ) H locs → lv_has ls 6 [(0, .ref (a 0)), (2, .int y2)] → Bm σ → f_X8_command σ0 x1 x2 = g_X8_command_115 σ y2 → W p l e rm_X8_command s m args below meth c H locs 0 0 Q (F0 m 115 ls []) := by
    intro σ y2 H locs ls hw hl hI e0
    refine lv_aload_n K.1 K.2.1 dX8_command_115 rfl (lv_at hl 0 rfl) ?_
    refine caV K hw (c_X8_beginField l D a cA _) hl.1 (tt_V km_X8_179 kI_X8_beginField ks_X8_beginField ki_X8 kC_X8_beginField) 0 (ci := 8) rfl rfl rfl (na := 0) rfl (by decide +kernel) ⟨rfl, rfl⟩ (by decide) ⟨Nat.zero_le _, Nat.zero_le _⟩ rfl (Nat.le_of_ble_eq_true rfl) dX8_command_116 (fun H locs hw => ?_)
    obtain ⟨s116, es116, hw⟩ := nmM hw
    have hI116 : Bm s116 := by rw [es116]; exact bm_X8_beginField hI
    refine lv_aload_n K.1 K.2.1 dX8_command_119 rfl (lv_at hl 0 rfl) ?_
    refine lv_aload_n K.1 K.2.1 dX8_command_120 rfl (lv_at hl 0 rfl) ?_
    refine gM_0_19 K hw kf_X8_165 dX8_command_121 ?_
    refine lv_if_le (tgt := 131) K.1 K.2.1 dX8_command_124 (by decide) (fun c124 => ?_) (fun c124 => ?_)
    · refine lv_iload_n K.1 K.2.1 dX8_command_131 rfl (lv_at hl 1 rfl) ?_
      refine lv_if_eq (tgt := 139) K.1 K.2.1 dX8_command_132 (by decide) (fun c132 => ?_) (fun c132 => ?_)
      · refine lv_iconst (v := 3) K.1 K.2.1 dX8_command_139 (by decide) ?_
        refine pM_0_10 K hw kf_X8_143 dX8_command_140 (fun H locs hw => ?_)
        exact ret (congrArg (mdW a cA) (by subst es116; exact (Eq.trans e0 (Eq.trans (if_pos c124) (Eq.trans (if_pos c132) rfl))))) hw dX8_command_143
      · refine lv_iconst (v := 0) K.1 K.2.1 dX8_command_135 (by decide) ?_
        refine lv_goto (tgt := 140) K.1 K.2.1 dX8_command_136 (by decide) ?_
        refine pM_0_10 K hw kf_X8_143 dX8_command_140 (fun H locs hw => ?_)
        exact ret (congrArg (mdW a cA) (by subst es116; exact (Eq.trans e0 (Eq.trans (if_pos c124) (Eq.trans (if_neg c132) rfl))))) hw dX8_command_143
    · refine lv_iconst (v := 4) K.1 K.2.1 dX8_command_127 (by decide) ?_
      refine lv_goto (tgt := 140) K.1 K.2.1 dX8_command_128 (by decide) ?_
      refine pM_0_10 K hw kf_X8_143 dX8_command_140 (fun H locs hw => ?_)
      exact ret (congrArg (mdW a cA) (by subst es116; exact (Eq.trans e0 (Eq.trans (if_neg c124) rfl)))) hw dX8_command_143
  have J76 : ∀ (σ : PS) (y1 : Int32) (y2 : Int32) (y3 : Int32) (y4 : Int32) (y5 : Int32) (k0 : Int32) (H : Heap) (locs : List Loc) (ls : Array Slot), WD D A s.heap (mdW a cA σ) H locs → lv_has ls 6 [(0, .ref (a 0)), (1, .int y1), (2, .int y2), (3, .int y3), (4, .int y4), (5, .int y5)] → Bm σ → 0 ≤ (σ.1 27).toInt → f_X8_command σ0 x1 x2 = g_X8_command_76 σ y1 y2 y3 y4 y5 k0 → W p l e rm_X8_command s m args below meth c H locs 0 0 Q (F0 m 76 ls [.int k0, .ref (a 0)]) := by
    intro σ y1 y2 y3 y4 y5 k0 H locs ls hw hl hI hp e0
    refine pM_0_19 K hw kf_X8_165 dX8_command_76 (fun H locs hw => ?_)
    refine lv_aload_n K.1 K.2.1 dX8_command_79 rfl (lv_at hl 0 rfl) ?_
    refine lv_iload K.1 K.2.1 dX8_command_80 (lv_at hl 5 rfl) ?_
    refine lv_if_eq (tgt := 89) K.1 K.2.1 dX8_command_82 (by decide) (fun c82 => ?_) (fun c82 => ?_)
    · refine lv_iconst (v := 0) K.1 K.2.1 dX8_command_89 (by decide) ?_
      refine pM_0_21 K hw kf_X8_168 dX8_command_90 (fun H locs hw => ?_)
      refine lv_iload K.1 K.2.1 dX8_command_93 (lv_at hl 5 rfl) ?_
      refine lv_if_ne (tgt := 115) K.1 K.2.1 dX8_command_95 (by decide) (fun c95 => ?_) (fun c95 => ?_)
      · exact J115 _ _ _ _ _ hw (lv_sub hl [0, 2] rfl) (bmS_21 (bmS_19 hI)) (by exact (Eq.trans e0 (Eq.trans (if_pos c82) (Eq.trans (if_neg c95) rfl))))
      · refine lv_aload_n K.1 K.2.1 dX8_command_98 rfl (lv_at hl 0 rfl) ?_
        refine lv_iload_n K.1 K.2.1 dX8_command_99 rfl (lv_at hl 1 rfl) ?_
        refine lv_iload_n K.1 K.2.1 dX8_command_100 rfl (lv_at hl 3 rfl) ?_
        refine lv_iload K.1 K.2.1 dX8_command_101 (lv_at hl 4 rfl) ?_
        refine caI K hw (c_X8_known l D a cA _ _ _ _ (bmS_21 (bmS_19 hI)) hp) hl.1 (tt_V km_X8_171 kI_X8_known ks_X8_known ki_X8 kC_X8_known) 0 (ci := 8) rfl rfl rfl (na := 3) rfl (by decide +kernel) ⟨rfl, rfl⟩ (by decide) ⟨Nat.zero_le _, Nat.zero_le _⟩ rfl (Nat.le_of_ble_eq_true rfl) dX8_command_103 (fun H locs hw => ?_)
        obtain ⟨s103, es103, hw⟩ := nmM hw
        have hI103 : Bm s103 := by rw [es103]; exact bm_X8_known (bmS_21 (bmS_19 hI))
        refine lv_if_ne (tgt := 115) K.1 K.2.1 dX8_command_106 (by decide) (fun c106 => ?_) (fun c106 => ?_)
        · exact J115 _ _ _ _ _ hw (lv_sub hl [0, 2] rfl) hI103 (by subst es103; exact (Eq.trans e0 (Eq.trans (if_pos c82) (Eq.trans (if_pos c95) (Eq.trans (if_neg c106) rfl)))))
        · refine lv_aload_n K.1 K.2.1 dX8_command_109 rfl (lv_at hl 0 rfl) ?_
          refine lv_iload_n K.1 K.2.1 dX8_command_110 rfl (lv_at hl 1 rfl) ?_
          refine lv_iload_n K.1 K.2.1 dX8_command_111 rfl (lv_at hl 3 rfl) ?_
          refine caV K hw (c_X8_handOn l D a cA _ _ _ hI103) hl.1 (tt_V km_X8_175 kI_X8_handOn ks_X8_handOn ki_X8 kC_X8_handOn) 0 (ci := 8) rfl rfl rfl (na := 2) rfl (by decide +kernel) ⟨rfl, rfl⟩ (by decide) ⟨Nat.zero_le _, Nat.zero_le _⟩ rfl (Nat.le_of_ble_eq_true rfl) dX8_command_112 (fun H locs hw => ?_)
          obtain ⟨s112, es112, hw⟩ := nmM hw
          have hI112 : Bm s112 := by rw [es112]; exact bm_X8_handOn hI103
          exact J115 _ _ _ _ _ hw (lv_sub hl [0, 2] rfl) hI112 (by subst es112 es103; exact (Eq.trans e0 (Eq.trans (if_pos c82) (Eq.trans (if_pos c95) (Eq.trans (if_pos c106) rfl)))))
    · refine lv_iconst (v := 1) K.1 K.2.1 dX8_command_85 (by decide) ?_
      refine lv_goto (tgt := 90) K.1 K.2.1 dX8_command_86 (by decide) ?_
      refine pM_0_21 K hw kf_X8_168 dX8_command_90 (fun H locs hw => ?_)
      refine lv_iload K.1 K.2.1 dX8_command_93 (lv_at hl 5 rfl) ?_
      refine lv_if_ne (tgt := 115) K.1 K.2.1 dX8_command_95 (by decide) (fun c95 => ?_) (fun c95 => ?_)
      · exact J115 _ _ _ _ _ hw (lv_sub hl [0, 2] rfl) (bmS_21 (bmS_19 hI)) (by exact (Eq.trans e0 (Eq.trans (if_neg c82) (Eq.trans (if_neg c95) rfl))))
      · refine lv_aload_n K.1 K.2.1 dX8_command_98 rfl (lv_at hl 0 rfl) ?_
        refine lv_iload_n K.1 K.2.1 dX8_command_99 rfl (lv_at hl 1 rfl) ?_
        refine lv_iload_n K.1 K.2.1 dX8_command_100 rfl (lv_at hl 3 rfl) ?_
        refine lv_iload K.1 K.2.1 dX8_command_101 (lv_at hl 4 rfl) ?_
        refine caI K hw (c_X8_known l D a cA _ _ _ _ (bmS_21 (bmS_19 hI)) hp) hl.1 (tt_V km_X8_171 kI_X8_known ks_X8_known ki_X8 kC_X8_known) 0 (ci := 8) rfl rfl rfl (na := 3) rfl (by decide +kernel) ⟨rfl, rfl⟩ (by decide) ⟨Nat.zero_le _, Nat.zero_le _⟩ rfl (Nat.le_of_ble_eq_true rfl) dX8_command_103 (fun H locs hw => ?_)
        obtain ⟨s103, es103, hw⟩ := nmM hw
        have hI103 : Bm s103 := by rw [es103]; exact bm_X8_known (bmS_21 (bmS_19 hI))
        refine lv_if_ne (tgt := 115) K.1 K.2.1 dX8_command_106 (by decide) (fun c106 => ?_) (fun c106 => ?_)
        · exact J115 _ _ _ _ _ hw (lv_sub hl [0, 2] rfl) hI103 (by subst es103; exact (Eq.trans e0 (Eq.trans (if_neg c82) (Eq.trans (if_pos c95) (Eq.trans (if_neg c106) rfl)))))
        · refine lv_aload_n K.1 K.2.1 dX8_command_109 rfl (lv_at hl 0 rfl) ?_
          refine lv_iload_n K.1 K.2.1 dX8_command_110 rfl (lv_at hl 1 rfl) ?_
          refine lv_iload_n K.1 K.2.1 dX8_command_111 rfl (lv_at hl 3 rfl) ?_
          refine caV K hw (c_X8_handOn l D a cA _ _ _ hI103) hl.1 (tt_V km_X8_175 kI_X8_handOn ks_X8_handOn ki_X8 kC_X8_handOn) 0 (ci := 8) rfl rfl rfl (na := 2) rfl (by decide +kernel) ⟨rfl, rfl⟩ (by decide) ⟨Nat.zero_le _, Nat.zero_le _⟩ rfl (Nat.le_of_ble_eq_true rfl) dX8_command_112 (fun H locs hw => ?_)
          obtain ⟨s112, es112, hw⟩ := nmM hw
          have hI112 : Bm s112 := by rw [es112]; exact bm_X8_handOn hI103
          exact J115 _ _ _ _ _ hw (lv_sub hl [0, 2] rfl) hI112 (by subst es112 es103; exact (Eq.trans e0 (Eq.trans (if_neg c82) (Eq.trans (if_pos c95) (Eq.trans (if_pos c106) rfl)))))
  have J70 : ∀ (σ : PS) (y1 : Int32) (y2 : Int32) (y3 : Int32) (y4 : Int32) (y5 : Int32) (H : Heap) (locs : List Loc) (ls : Array Slot), WD D A s.heap (mdW a cA σ) H locs → lv_has ls 6 [(0, .ref (a 0)), (1, .int y1), (2, .int y2), (3, .int y3), (4, .int y4), (5, .int y5)] → Bm σ → 0 ≤ (σ.1 27).toInt → f_X8_command σ0 x1 x2 = g_X8_command_70 σ y1 y2 y3 y4 y5 → W p l e rm_X8_command s m args below meth c H locs 0 0 Q (F0 m 70 ls [.ref (a 0)]) := by
    intro σ y1 y2 y3 y4 y5 H locs ls hw hl hI hp e0
    refine lv_iload K.1 K.2.1 dX8_command_70 (lv_at hl 4 rfl) ?_
    refine lv_goto (tgt := 76) K.1 K.2.1 dX8_command_72 (by decide) ?_
    exact J76 _ _ _ _ _ _ _ _ _ _ hw (lv_sub hl [0, 1, 2, 3, 4, 5] rfl) hI hp (by exact (Eq.trans e0 rfl))
  have J50 : ∀ (σ : PS) (y1 : Int32) (y2 : Int32) (y3 : Int32) (y4 : Int32) (H : Heap) (locs : List Loc) (ls : Array Slot), WD D A s.heap (mdW a cA σ) H locs → lv_has ls 6 [(0, .ref (a 0)), (1, .int y1), (2, .int y2), (3, .int y3), (4, .int y4)] → Bm σ → 0 ≤ (σ.1 27).toInt → 0 ≤ y2.toInt ∧ y2.toInt ≤ 1 → f_X8_command σ0 x1 x2 = g_X8_command_50 σ y1 y2 y3 y4 → W p l e rm_X8_command s m args below meth c H locs 0 0 Q (F0 m 50 ls []) := by
    intro σ y1 y2 y3 y4 H locs ls hw hl hI hp hz e0
    refine lv_iconst (v := 0) K.1 K.2.1 dX8_command_50 (by decide) ?_
    refine lv_istore (lv' := [(5, .int 0), (0, .ref (a 0)), (1, .int y1), (2, .int y2), (3, .int y3), (4, .int y4)]) K.1 K.2.1 dX8_command_51 hl (by decide) rfl (fun ls hl => ?_)
    refine lv_aload_n K.1 K.2.1 dX8_command_53 rfl (lv_at hl 1 rfl) ?_
    refine lv_iload_n K.1 K.2.1 dX8_command_54 rfl (lv_at hl 3 rfl) ?_
    refine pM_0_20 K hw (nzB hz) (fzB hz) kf_X8_162 dX8_command_55 (fun H locs hw => ?_)
    refine lv_aload_n K.1 K.2.1 dX8_command_58 rfl (lv_at hl 1 rfl) ?_
    refine lv_iload_n K.1 K.2.1 dX8_command_59 rfl (lv_at hl 2 rfl) ?_
    refine lv_bipush (v := 87) K.1 K.2.1 dX8_command_60 (by decide) ?_
    refine lv_icmp_eq (tgt := 70) K.1 K.2.1 dX8_command_62 (by decide) (fun c62 => ?_) (fun c62 => ?_)
    · exact J70 _ _ _ _ _ _ _ _ _ hw (lv_sub hl [1, 2, 3, 4, 5, 0] rfl) (bmQ_20 hI hz.1 hz.2) hp (by exact (Eq.trans e0 (Eq.trans (if_pos c62) rfl)))
    · refine lv_iload K.1 K.2.1 dX8_command_65 (lv_at hl 0 rfl) ?_
      refine lv_if_eq (tgt := 75) K.1 K.2.1 dX8_command_67 (by decide) (fun _ => ?_) (fun c67 => absurd c67 (by show ¬ ¬ ((0 : Int32) = (0 : Int32)); decide))
      refine lv_iconst (v := 0) K.1 K.2.1 dX8_command_75 (by decide) ?_
      exact J76 _ _ _ _ _ _ _ _ _ _ hw (lv_sub hl [1, 2, 3, 4, 5, 0] rfl) (bmQ_20 hI hz.1 hz.2) hp (by exact (Eq.trans e0 (Eq.trans (if_neg c62) rfl)))
  have J20 : ∀ (σ : PS) (y1 : Int32) (y2 : Int32) (y3 : Int32) (k0 : Int32) (H : Heap) (locs : List Loc) (ls : Array Slot), WD D A s.heap (mdW a cA σ) H locs → lv_has ls 6 [(0, .ref (a 0)), (1, .int y1), (2, .int y2), (3, .int y3)] → Bm σ → 0 ≤ (σ.1 27).toInt → 0 ≤ y2.toInt ∧ y2.toInt ≤ 1 → f_X8_command σ0 x1 x2 = g_X8_command_20 σ y1 y2 y3 k0 → W p l e rm_X8_command s m args below meth c H locs 0 0 Q (F0 m 20 ls [.int k0]) := by
    intro σ y1 y2 y3 k0 H locs ls hw hl hI hp hz e0
    refine lv_istore (lv' := [(4, .int k0), (0, .ref (a 0)), (1, .int y1), (2, .int y2), (3, .int y3)]) K.1 K.2.1 dX8_command_20 hl (by decide) rfl (fun ls hl => ?_)
    refine lv_aload_n K.1 K.2.1 dX8_command_22 rfl (lv_at hl 1 rfl) ?_
    refine gM_0_11 K hw kf_X8_149 dX8_command_23 ?_
    refine lv_bipush (v := 38) K.1 K.2.1 dX8_command_26 (by decide) ?_
    refine lv_icmp_ne (tgt := 50) K.1 K.2.1 dX8_command_28 (by decide) (fun c28 => ?_) (fun c28 => ?_)
    · exact J50 _ _ _ _ _ _ _ _ hw (lv_sub hl [1, 2, 3, 4, 0] rfl) hI hp hz (by exact (Eq.trans e0 (Eq.trans (if_neg c28) rfl)))
    · refine lv_aload_n K.1 K.2.1 dX8_command_31 rfl (lv_at hl 1 rfl) ?_
      refine gM_0_12 K hw kf_X8_152 dX8_command_32 ?_
      refine lv_bipush (v := 112) K.1 K.2.1 dX8_command_35 (by decide) ?_
      refine lv_icmp_ne (tgt := 50) K.1 K.2.1 dX8_command_37 (by decide) (fun c37 => ?_) (fun c37 => ?_)
      · exact J50 _ _ _ _ _ _ _ _ hw (lv_sub hl [1, 2, 3, 4, 0] rfl) hI hp hz (by exact (Eq.trans e0 (Eq.trans (if_pos c28) (Eq.trans (if_neg c37) rfl))))
      · refine lv_iload_n K.1 K.2.1 dX8_command_40 rfl (lv_at hl 2 rfl) ?_
        refine lv_bipush (v := 88) K.1 K.2.1 dX8_command_41 (by decide) ?_
        refine lv_icmp_ne (tgt := 50) K.1 K.2.1 dX8_command_43 (by decide) (fun c43 => ?_) (fun c43 => ?_)
        · exact J50 _ _ _ _ _ _ _ _ hw (lv_sub hl [1, 2, 3, 4, 0] rfl) hI hp hz (by exact (Eq.trans e0 (Eq.trans (if_pos c28) (Eq.trans (if_pos c37) (Eq.trans (if_neg c43) rfl)))))
        · refine lv_iconst (v := 1) K.1 K.2.1 dX8_command_46 (by decide) ?_
          refine lv_goto (tgt := 51) K.1 K.2.1 dX8_command_47 (by decide) ?_
          refine lv_istore (lv' := [(5, .int 1), (4, .int k0), (0, .ref (a 0)), (1, .int y1), (2, .int y2), (3, .int y3)]) K.1 K.2.1 dX8_command_51 hl (by decide) rfl (fun ls hl => ?_)
          refine lv_aload_n K.1 K.2.1 dX8_command_53 rfl (lv_at hl 2 rfl) ?_
          refine lv_iload_n K.1 K.2.1 dX8_command_54 rfl (lv_at hl 4 rfl) ?_
          refine pM_0_20 K hw (nzB hz) (fzB hz) kf_X8_162 dX8_command_55 (fun H locs hw => ?_)
          refine lv_aload_n K.1 K.2.1 dX8_command_58 rfl (lv_at hl 2 rfl) ?_
          refine lv_iload_n K.1 K.2.1 dX8_command_59 rfl (lv_at hl 3 rfl) ?_
          refine lv_bipush (v := 87) K.1 K.2.1 dX8_command_60 (by decide) ?_
          refine lv_icmp_eq (tgt := 70) K.1 K.2.1 dX8_command_62 (by decide) (fun c62 => ?_) (fun c62 => ?_)
          · exact J70 _ _ _ _ _ _ _ _ _ hw (lv_sub hl [2, 3, 4, 5, 1, 0] rfl) (bmQ_20 hI hz.1 hz.2) hp (by exact (Eq.trans e0 (Eq.trans (if_pos c28) (Eq.trans (if_pos c37) (Eq.trans (if_pos c43) (Eq.trans (if_pos c62) rfl))))))
          · refine lv_iload K.1 K.2.1 dX8_command_65 (lv_at hl 0 rfl) ?_
            refine lv_if_eq (tgt := 75) K.1 K.2.1 dX8_command_67 (by decide) (fun c67 => absurd c67 (by show ¬ ((1 : Int32) = (0 : Int32)); decide)) (fun _ => ?_)
            exact J70 _ _ _ _ _ _ _ _ _ hw (lv_sub hl [2, 3, 4, 5, 1, 0] rfl) (bmQ_20 hI hz.1 hz.2) hp (by exact (Eq.trans e0 (Eq.trans (if_pos c28) (Eq.trans (if_pos c37) (Eq.trans (if_pos c43) (Eq.trans (if_neg c62) rfl))))))
  refine lv_aload_n K.1 K.2.1 dX8_command_0 rfl (lv_at hl 0 rfl) ?_
  refine caI K hw (c_X8_value l D a cA _ hI) hl.1 (tt_V km_X8_159 kI_X8_value ks_X8_value ki_X8 kC_X8_value) 0 (ci := 8) rfl rfl rfl (na := 0) rfl (by decide +kernel) ⟨rfl, rfl⟩ (by decide) ⟨Nat.zero_le _, Nat.zero_le _⟩ rfl (Nat.le_of_ble_eq_true rfl) dX8_command_1 (fun H locs hw => ?_)
  refine lv_topi (fun x3_4 ex3_4 => ?_)
  refine lv_istore_n (lv' := [(3, .int x3_4), (0, .ref (a 0)), (1, .int x1), (2, .int x2)]) K.1 K.2.1 dX8_command_4 rfl hl (by decide) rfl (fun ls hl => ?_)
  refine lv_aload_n K.1 K.2.1 dX8_command_5 rfl (lv_at hl 1 rfl) ?_
  refine gM_0_15 K hw kf_X8_131 dX8_command_6 ?_
  refine lv_if_eq (tgt := 16) K.1 K.2.1 dX8_command_9 (by decide) (fun c9 => ?_) (fun c9 => ?_)
  · refine lv_aload_n K.1 K.2.1 dX8_command_16 rfl (lv_at hl 1 rfl) ?_
    refine gM_0_16 K hw kf_X8_134 dX8_command_17 ?_
    exact J20 _ _ _ _ _ _ _ _ hw (lv_sub hl [1, 2, 3, 0] rfl) hI hp hz (by subst ex3_4; exact (Eq.trans (if_pos c9) rfl))
  · refine lv_iconst (v := 0) K.1 K.2.1 dX8_command_12 (by decide) ?_
    refine lv_goto (tgt := 20) K.1 K.2.1 dX8_command_13 (by decide) ?_
    exact J20 _ _ _ _ _ _ _ _ hw (lv_sub hl [1, 2, 3, 0] rfl) hI hp hz (by subst ex3_4; exact (Eq.trans (if_neg c9) rfl))
def g_X8_field_266 (σ : PS) (y1 : Int32) : PS := (if y1 = 27 then (upS σ 10 1) else (upS σ 10 0))
def g_X8_field_249 (σ : PS) (y1 : Int32) (k0 : Int32) : PS := (if 96 ≤ y1 then let s260 : PS := f_X8_command σ k0 0; s260 else let s260 : PS := f_X8_command σ k0 1; s260)
def g_X8_field_234 (σ : PS) (y1 : Int32) : PS := (if y1 < 96 then (g_X8_field_249 σ y1 y1) else (g_X8_field_249 σ y1 (y1 - 32)))
def g_X8_field_222 (σ : PS) (y1 : Int32) : PS := (if y1 < 96 then (g_X8_field_266 σ y1) else (if 126 < y1 then (g_X8_field_266 σ y1) else (g_X8_field_234 σ y1)))
def g_X8_field_179 (σ : PS) (k0 : Int32) : PS := (if 4 ≤ (σ.1 18) then (upS (upS σ 17 k0) 18 (σ.1 18)) else (upS (upS σ 17 k0) 18 ((σ.1 18) + 1)))
def g_X8_field_147 (σ : PS) (y1 : Int32) (y2 : Int32) : PS := (if y2 = 0 then (if y1 < 64 then (g_X8_field_222 σ y1) else (if y1 ≤ 94 then (g_X8_field_234 σ y1) else (g_X8_field_222 σ y1))) else (if 4 ≤ (σ.1 18) then (g_X8_field_179 σ (σ.1 17)) else (g_X8_field_179 σ (((10 * (σ.1 17)) + y1) - 48))))
def g_X8_field_125 (σ : PS) (y1 : Int32) (y2 : Int32) : PS := (if 2 ≤ (σ.1 13) then (g_X8_field_147 σ y1 y2) else (if y1 = 46 then (upS σ 13 2) else (g_X8_field_147 σ y1 y2)))
def g_X8_field_65 (σ : PS) (y1 : Int32) (y2 : Int32) : PS := (if 2 ≤ (σ.1 13) then (g_X8_field_125 σ y1 y2) else (if y2 = 0 then (g_X8_field_125 σ y1 y2) else (if ((((σ.1 16) * 10) + y1) - 48) ≤ 32767 then (upS (upS σ 16 ((((σ.1 16) * 10) + y1) - 48)) 13 1) else (upS (upS σ 16 32767) 13 1))))
def g_X8_field_37 (σ : PS) (y1 : Int32) : PS := (if y1 = 45 then (upS (upS (upS σ 14 1) 15 1) 13 1) else (upS (upS (upS σ 14 1) 15 0) 13 1))
def g_X8_field_17 (σ : PS) (y1 : Int32) (k0 : Int32) : PS := (if (σ.1 13) = 0 then (if y1 = 43 then (g_X8_field_37 σ y1) else (if y1 = 45 then (g_X8_field_37 σ y1) else (g_X8_field_65 σ y1 k0))) else (g_X8_field_65 σ y1 k0))
def g_X8_field_16 (σ : PS) (y1 : Int32) : PS := (g_X8_field_17 σ y1 0)
def f_X8_field (σ0 : PS) (x1 : Int32) : PS := (if x1 < 48 then (g_X8_field_16 σ0 x1) else (if 57 < x1 then (g_X8_field_16 σ0 x1) else (g_X8_field_17 σ0 x1 1)))
theorem bm_g_X8_field_266 {σ : PS} {y1 : Int32} (hI : Bm σ) : Bm (g_X8_field_266 σ y1) := (bxI (fun c270 => (bmS_10 hI)) (fun c270 => (bmS_10 hI)))
theorem bm_g_X8_field_249 {σ : PS} {y1 : Int32} {k0 : Int32} (hI : Bm σ) : Bm (g_X8_field_249 σ y1 k0) := (bxI (fun c252 => (bm_X8_command hI (by decide))) (fun c252 => (bm_X8_command hI (by decide))))
theorem bm_g_X8_field_234 {σ : PS} {y1 : Int32} (hI : Bm σ) : Bm (g_X8_field_234 σ y1) := (bxI (fun c238 => (bm_g_X8_field_249 hI)) (fun c238 => (bm_g_X8_field_249 hI)))
theorem bm_g_X8_field_222 {σ : PS} {y1 : Int32} (hI : Bm σ) : Bm (g_X8_field_222 σ y1) := (bxI (fun c225 => (bm_g_X8_field_266 hI)) (fun c225 => (bxI (fun c231 => (bm_g_X8_field_266 hI)) (fun c231 => (bm_g_X8_field_234 hI)))))
theorem bm_g_X8_field_179 {σ : PS} {k0 : Int32} (hI : Bm σ) : Bm (g_X8_field_179 σ k0) := (bxI (fun c188 => (bmQ_18 (bmS_17 hI) (by first | exact (inc1 (bmg_18 (σ := σ) hI).1 c188 rfl (by decide)).1 | exact (bmg_18 (σ := σ) hI).1) (by first | exact (inc1 (bmg_18 (σ := σ) hI).1 c188 rfl (by decide)).2 | exact (bmg_18 (σ := σ) hI).2))) (fun c188 => (bmQ_18 (bmS_17 hI) (by first | exact (inc1 (bmg_18 (σ := σ) hI).1 c188 rfl (by decide)).1 | exact (bmg_18 (σ := σ) hI).1) (by first | exact (inc1 (bmg_18 (σ := σ) hI).1 c188 rfl (by decide)).2 | exact (bmg_18 (σ := σ) hI).2))))
theorem bm_g_X8_field_147 {σ : PS} {y1 : Int32} {y2 : Int32} (hI : Bm σ) : Bm (g_X8_field_147 σ y1 y2) := (bxI (fun c148 => (bxI (fun c213 => (bm_g_X8_field_222 hI)) (fun c213 => (bxI (fun c219 => (bm_g_X8_field_234 hI)) (fun c219 => (bm_g_X8_field_222 hI)))))) (fun c148 => (bxI (fun c157 => (bm_g_X8_field_179 hI)) (fun c157 => (bm_g_X8_field_179 hI)))))
theorem bm_g_X8_field_125 {σ : PS} {y1 : Int32} {y2 : Int32} (hI : Bm σ) : Bm (g_X8_field_125 σ y1 y2) := (bxI (fun c130 => (bm_g_X8_field_147 hI)) (fun c130 => (bxI (fun c136 => (bmS_13 hI)) (fun c136 => (bm_g_X8_field_147 hI)))))
theorem bm_g_X8_field_65 {σ : PS} {y1 : Int32} {y2 : Int32} (hI : Bm σ) : Bm (g_X8_field_65 σ y1 y2) := (bxI (fun c70 => (bm_g_X8_field_125 hI)) (fun c70 => (bxI (fun c74 => (bm_g_X8_field_125 hI)) (fun c74 => (bxI (fun c93 => (bmS_13 (bmS_16 hI))) (fun c93 => (bmS_13 (bmS_16 hI))))))))
theorem bm_g_X8_field_37 {σ : PS} {y1 : Int32} (hI : Bm σ) : Bm (g_X8_field_37 σ y1) := (bxI (fun c46 => (bmS_13 (bmQ_15 (bmQ_14 hI (by decide) (by decide)) (by decide) (by decide)))) (fun c46 => (bmS_13 (bmQ_15 (bmQ_14 hI (by decide) (by decide)) (by decide) (by decide)))))
theorem bm_g_X8_field_17 {σ : PS} {y1 : Int32} {k0 : Int32} (hI : Bm σ) : Bm (g_X8_field_17 σ y1 k0) := (bxI (fun c22 => (bxI (fun c28 => (bm_g_X8_field_37 hI)) (fun c28 => (bxI (fun c34 => (bm_g_X8_field_37 hI)) (fun c34 => (bm_g_X8_field_65 hI)))))) (fun c22 => (bm_g_X8_field_65 hI)))
theorem bm_g_X8_field_16 {σ : PS} {y1 : Int32} (hI : Bm σ) : Bm (g_X8_field_16 σ y1) := (bm_g_X8_field_17 hI)
theorem bm_X8_field {σ0 : PS} {x1 : Int32} (hI : Bm σ0) : Bm (f_X8_field σ0 x1) := (bxI (fun c3 => (bm_g_X8_field_16 hI)) (fun c3 => (bxI (fun c9 => (bm_g_X8_field_16 hI)) (fun c9 => (bm_g_X8_field_17 hI)))))
theorem pm_g_X8_field_266 {n : Int} {σ : PS} {y1 : Int32} (hP : Pm n σ) : Pm (n) (g_X8_field_266 σ y1) := (bxI (fun c270 => hP) (fun c270 => hP))
theorem pm_g_X8_field_249 {n : Int} {σ : PS} {y1 : Int32} {k0 : Int32} (hP : Pm n σ) (hn : n ≤ 2147483646) : Pm (n + 1) (g_X8_field_249 σ y1 k0) := (bxI (fun c252 => (pm_X8_command hP hn)) (fun c252 => (pm_X8_command hP hn)))
theorem pm_g_X8_field_234 {n : Int} {σ : PS} {y1 : Int32} (hP : Pm n σ) (hn : n ≤ 2147483646) : Pm (n + 1) (g_X8_field_234 σ y1) := (bxI (fun c238 => (pm_g_X8_field_249 hP hn)) (fun c238 => (pm_g_X8_field_249 hP hn)))
theorem pm_g_X8_field_222 {n : Int} {σ : PS} {y1 : Int32} (hP : Pm n σ) (hn : n ≤ 2147483646) : Pm (n + 1) (g_X8_field_222 σ y1) := (bxI (fun c225 => (pm_w (pm_g_X8_field_266 hP))) (fun c225 => (bxI (fun c231 => (pm_w (pm_g_X8_field_266 hP))) (fun c231 => (pm_g_X8_field_234 hP hn)))))
theorem pm_g_X8_field_179 {n : Int} {σ : PS} {k0 : Int32} (hP : Pm n σ) : Pm (n) (g_X8_field_179 σ k0) := (bxI (fun c188 => hP) (fun c188 => hP))
theorem pm_g_X8_field_147 {n : Int} {σ : PS} {y1 : Int32} {y2 : Int32} (hP : Pm n σ) (hn : n ≤ 2147483646) : Pm (n + 1) (g_X8_field_147 σ y1 y2) := (bxI (fun c148 => (bxI (fun c213 => (pm_g_X8_field_222 hP hn)) (fun c213 => (bxI (fun c219 => (pm_g_X8_field_234 hP hn)) (fun c219 => (pm_g_X8_field_222 hP hn)))))) (fun c148 => (pm_w (bxI (fun c157 => (pm_g_X8_field_179 hP)) (fun c157 => (pm_g_X8_field_179 hP))))))
theorem pm_g_X8_field_125 {n : Int} {σ : PS} {y1 : Int32} {y2 : Int32} (hP : Pm n σ) (hn : n ≤ 2147483646) : Pm (n + 1) (g_X8_field_125 σ y1 y2) := (bxI (fun c130 => (pm_g_X8_field_147 hP hn)) (fun c130 => (bxI (fun c136 => (pm_w hP)) (fun c136 => (pm_g_X8_field_147 hP hn)))))
theorem pm_g_X8_field_65 {n : Int} {σ : PS} {y1 : Int32} {y2 : Int32} (hP : Pm n σ) (hn : n ≤ 2147483646) : Pm (n + 1) (g_X8_field_65 σ y1 y2) := (bxI (fun c70 => (pm_g_X8_field_125 hP hn)) (fun c70 => (bxI (fun c74 => (pm_g_X8_field_125 hP hn)) (fun c74 => (pm_w (bxI (fun c93 => hP) (fun c93 => hP)))))))
theorem pm_g_X8_field_37 {n : Int} {σ : PS} {y1 : Int32} (hP : Pm n σ) : Pm (n) (g_X8_field_37 σ y1) := (bxI (fun c46 => hP) (fun c46 => hP))
theorem pm_g_X8_field_17 {n : Int} {σ : PS} {y1 : Int32} {k0 : Int32} (hP : Pm n σ) (hn : n ≤ 2147483646) : Pm (n + 1) (g_X8_field_17 σ y1 k0) := (bxI (fun c22 => (bxI (fun c28 => (pm_w (pm_g_X8_field_37 hP))) (fun c28 => (bxI (fun c34 => (pm_w (pm_g_X8_field_37 hP))) (fun c34 => (pm_g_X8_field_65 hP hn)))))) (fun c22 => (pm_g_X8_field_65 hP hn)))
theorem pm_g_X8_field_16 {n : Int} {σ : PS} {y1 : Int32} (hP : Pm n σ) (hn : n ≤ 2147483646) : Pm (n + 1) (g_X8_field_16 σ y1) := (pm_g_X8_field_17 hP hn)
theorem pm_X8_field {n : Int} {σ0 : PS} {x1 : Int32} (hP : Pm n σ0) (hn : n ≤ 2147483646) : Pm (n + 1) (f_X8_field σ0 x1) := (bxI (fun c3 => (pm_g_X8_field_16 hP hn)) (fun c3 => (bxI (fun c9 => (pm_g_X8_field_16 hP hn)) (fun c9 => (pm_g_X8_field_17 hP hn)))))
abbrev rm_X8_field : Room := { frames := 7, cells := 0, slots := 0, locals := 161 }
set_option maxHeartbeats 4000000 in
set_option maxRecDepth 100000 in
theorem c_X8_field (l : Launch) (D : va_G) (a : Nat → Nat) (cA : Nat → ClassId) (σ0 : PS) (x1 : Int32) (hI : Bm σ0) (hp : 0 ≤ (σ0.1 27).toInt) : CV l yX8_field cX8_field 3 rm_X8_field D (mdT cA) [.ref (a 0), .int x1] (mdW a cA σ0) (mdW a cA (f_X8_field σ0 x1)) := by
  refine en_v (by decide +kernel) (Nat.le_of_ble_eq_true rfl) ?_
  intro p e s m args below meth c A ls Q K hw hl ret
  have hl : lv_has ls 3 [(0, .ref (a 0)), (1, .int x1)] := hl
  have J266 : ∀ (σ : PS) (y1 : Int32) (H : Heap) (locs : List Loc) (ls : Array Slot), WD D A s.heap (mdW a cA σ) H locs → lv_has ls 3 [(0, .ref (a 0)), (1, .int y1)] → Bm σ → f_X8_field σ0 x1 = g_X8_field_266 σ y1 → W p l e rm_X8_field s m args below meth c H locs 0 0 Q (F0 m 266 ls []) := by
    intro σ y1 H locs ls hw hl hI e0
    refine lv_aload_n K.1 K.2.1 dX8_field_266 rfl (lv_at hl 0 rfl) ?_
    refine lv_iload_n K.1 K.2.1 dX8_field_267 rfl (lv_at hl 1 rfl) ?_
    refine lv_bipush (v := 27) K.1 K.2.1 dX8_field_268 (by decide) ?_
    refine lv_icmp_ne (tgt := 277) K.1 K.2.1 dX8_field_270 (by decide) (fun c270 => ?_) (fun c270 => ?_)
    · refine lv_iconst (v := 0) K.1 K.2.1 dX8_field_277 (by decide) ?_
      refine pM_0_10 K hw kf_X8_143 dX8_field_278 (fun H locs hw => ?_)
      exact ret (congrArg (mdW a cA) (by exact (Eq.trans e0 (Eq.trans (if_neg c270) rfl)))) hw dX8_field_281
    · refine lv_iconst (v := 1) K.1 K.2.1 dX8_field_273 (by decide) ?_
      refine lv_goto (tgt := 278) K.1 K.2.1 dX8_field_274 (by decide) ?_
      refine pM_0_10 K hw kf_X8_143 dX8_field_278 (fun H locs hw => ?_)
      exact ret (congrArg (mdW a cA) (by exact (Eq.trans e0 (Eq.trans (if_pos c270) rfl)))) hw dX8_field_281
  have J249 : ∀ (σ : PS) (y1 : Int32) (k0 : Int32) (H : Heap) (locs : List Loc) (ls : Array Slot), WD D A s.heap (mdW a cA σ) H locs → lv_has ls 3 [(1, .int y1)] → Bm σ → 0 ≤ (σ.1 27).toInt → f_X8_field σ0 x1 = g_X8_field_249 σ y1 k0 → W p l e rm_X8_field s m args below meth c H locs 0 0 Q (F0 m 249 ls [.int k0, .ref (a 0)]) := by
    intro σ y1 k0 H locs ls hw hl hI hp e0
    refine lv_iload_n K.1 K.2.1 dX8_field_249 rfl (lv_at hl 0 rfl) ?_
    refine lv_bipush (v := 96) K.1 K.2.1 dX8_field_250 (by decide) ?_
    refine lv_icmp_ge (tgt := 259) K.1 K.2.1 dX8_field_252 (by decide) (fun c252 => ?_) (fun c252 => ?_)
    · refine lv_iconst (v := 0) K.1 K.2.1 dX8_field_259 (by decide) ?_
      refine caV K hw (c_X8_command l D a cA _ _ _ hI hp (by decide)) hl.1 (tt_V km_X8_155 kI_X8_command ks_X8_command ki_X8 kC_X8_command) 0 (ci := 8) rfl rfl rfl (na := 2) rfl (by decide +kernel) ⟨rfl, rfl⟩ (by decide) ⟨Nat.zero_le _, Nat.zero_le _⟩ rfl (Nat.le_of_ble_eq_true rfl) dX8_field_260 (fun H locs hw => ?_)
      obtain ⟨s260, es260, hw⟩ := nmM hw
      have hI260 : Bm s260 := by rw [es260]; exact bm_X8_command hI (by decide)
      refine lv_goto (tgt := 281) K.1 K.2.1 dX8_field_263 (by decide) ?_
      exact ret (congrArg (mdW a cA) (by subst es260; exact (Eq.trans e0 (Eq.trans (if_pos c252) rfl)))) hw dX8_field_281
    · refine lv_iconst (v := 1) K.1 K.2.1 dX8_field_255 (by decide) ?_
      refine lv_goto (tgt := 260) K.1 K.2.1 dX8_field_256 (by decide) ?_
      refine caV K hw (c_X8_command l D a cA _ _ _ hI hp (by decide)) hl.1 (tt_V km_X8_155 kI_X8_command ks_X8_command ki_X8 kC_X8_command) 0 (ci := 8) rfl rfl rfl (na := 2) rfl (by decide +kernel) ⟨rfl, rfl⟩ (by decide) ⟨Nat.zero_le _, Nat.zero_le _⟩ rfl (Nat.le_of_ble_eq_true rfl) dX8_field_260 (fun H locs hw => ?_)
      obtain ⟨s260, es260, hw⟩ := nmM hw
      have hI260 : Bm s260 := by rw [es260]; exact bm_X8_command hI (by decide)
      refine lv_goto (tgt := 281) K.1 K.2.1 dX8_field_263 (by decide) ?_
      exact ret (congrArg (mdW a cA) (by subst es260; exact (Eq.trans e0 (Eq.trans (if_neg c252) rfl)))) hw dX8_field_281
  have J234 : ∀ (σ : PS) (y1 : Int32) (H : Heap) (locs : List Loc) (ls : Array Slot), WD D A s.heap (mdW a cA σ) H locs → lv_has ls 3 [(0, .ref (a 0)), (1, .int y1)] → Bm σ → 0 ≤ (σ.1 27).toInt → f_X8_field σ0 x1 = g_X8_field_234 σ y1 → W p l e rm_X8_field s m args below meth c H locs 0 0 Q (F0 m 234 ls []) := by
    intro σ y1 H locs ls hw hl hI hp e0
    refine lv_aload_n K.1 K.2.1 dX8_field_234 rfl (lv_at hl 0 rfl) ?_
    refine lv_iload_n K.1 K.2.1 dX8_field_235 rfl (lv_at hl 1 rfl) ?_
    refine lv_bipush (v := 96) K.1 K.2.1 dX8_field_236 (by decide) ?_
    refine lv_icmp_lt (tgt := 248) K.1 K.2.1 dX8_field_238 (by decide) (fun c238 => ?_) (fun c238 => ?_)
    · refine lv_iload_n K.1 K.2.1 dX8_field_248 rfl (lv_at hl 1 rfl) ?_
      exact J249 _ _ _ _ _ _ hw (lv_sub hl [1] rfl) hI hp (by exact (Eq.trans e0 (Eq.trans (if_pos c238) rfl)))
    · refine lv_iload_n K.1 K.2.1 dX8_field_241 rfl (lv_at hl 1 rfl) ?_
      refine lv_bipush (v := 32) K.1 K.2.1 dX8_field_242 (by decide) ?_
      refine lv_isub K.1 K.2.1 dX8_field_244 ?_
      refine lv_goto (tgt := 249) K.1 K.2.1 dX8_field_245 (by decide) ?_
      exact J249 _ _ _ _ _ _ hw (lv_sub hl [1] rfl) hI hp (by exact (Eq.trans e0 (Eq.trans (if_neg c238) rfl)))
  have J222 : ∀ (σ : PS) (y1 : Int32) (H : Heap) (locs : List Loc) (ls : Array Slot), WD D A s.heap (mdW a cA σ) H locs → lv_has ls 3 [(0, .ref (a 0)), (1, .int y1)] → Bm σ → 0 ≤ (σ.1 27).toInt → f_X8_field σ0 x1 = g_X8_field_222 σ y1 → W p l e rm_X8_field s m args below meth c H locs 0 0 Q (F0 m 222 ls []) := by
    intro σ y1 H locs ls hw hl hI hp e0
    refine lv_iload_n K.1 K.2.1 dX8_field_222 rfl (lv_at hl 1 rfl) ?_
    refine lv_bipush (v := 96) K.1 K.2.1 dX8_field_223 (by decide) ?_
    refine lv_icmp_lt (tgt := 266) K.1 K.2.1 dX8_field_225 (by decide) (fun c225 => ?_) (fun c225 => ?_)
    · exact J266 _ _ _ _ _ hw (lv_sub hl [0, 1] rfl) hI (by exact (Eq.trans e0 (Eq.trans (if_pos c225) rfl)))
    · refine lv_iload_n K.1 K.2.1 dX8_field_228 rfl (lv_at hl 1 rfl) ?_
      refine lv_bipush (v := 126) K.1 K.2.1 dX8_field_229 (by decide) ?_
      refine lv_icmp_gt (tgt := 266) K.1 K.2.1 dX8_field_231 (by decide) (fun c231 => ?_) (fun c231 => ?_)
      · exact J266 _ _ _ _ _ hw (lv_sub hl [0, 1] rfl) hI (by exact (Eq.trans e0 (Eq.trans (if_neg c225) (Eq.trans (if_pos c231) rfl))))
      · exact J234 _ _ _ _ _ hw (lv_sub hl [0, 1] rfl) hI hp (by exact (Eq.trans e0 (Eq.trans (if_neg c225) (Eq.trans (if_neg c231) rfl))))
  have J179 : ∀ (σ : PS) (k0 : Int32) (H : Heap) (locs : List Loc) (ls : Array Slot), WD D A s.heap (mdW a cA σ) H locs → lv_has ls 3 [(0, .ref (a 0))] → Bm σ → f_X8_field σ0 x1 = g_X8_field_179 σ k0 → W p l e rm_X8_field s m args below meth c H locs 0 0 Q (F0 m 179 ls [.int k0, .ref (a 0)]) := by
    intro σ k0 H locs ls hw hl hI e0
    refine pM_0_17 K hw kf_X8_137 dX8_field_179 (fun H locs hw => ?_)
    refine lv_aload_n K.1 K.2.1 dX8_field_182 rfl (lv_at hl 0 rfl) ?_
    refine lv_aload_n K.1 K.2.1 dX8_field_183 rfl (lv_at hl 0 rfl) ?_
    refine gM_0_18 K hw kf_X8_140 dX8_field_184 ?_
    refine lv_iconst (v := 4) K.1 K.2.1 dX8_field_187 (by decide) ?_
    refine lv_icmp_ge (tgt := 200) K.1 K.2.1 dX8_field_188 (by decide) (fun c188 => ?_) (fun c188 => ?_)
    · refine lv_aload_n K.1 K.2.1 dX8_field_200 rfl (lv_at hl 0 rfl) ?_
      refine gM_0_18 K hw kf_X8_140 dX8_field_201 ?_
      refine pM_0_18 K hw kf_X8_140 dX8_field_204 (fun H locs hw => ?_)
      refine lv_goto (tgt := 281) K.1 K.2.1 dX8_field_207 (by decide) ?_
      exact ret (congrArg (mdW a cA) (by exact (Eq.trans e0 (Eq.trans (if_pos c188) rfl)))) hw dX8_field_281
    · refine lv_aload_n K.1 K.2.1 dX8_field_191 rfl (lv_at hl 0 rfl) ?_
      refine gM_0_18 K hw kf_X8_140 dX8_field_192 ?_
      refine lv_iconst (v := 1) K.1 K.2.1 dX8_field_195 (by decide) ?_
      refine lv_iadd K.1 K.2.1 dX8_field_196 ?_
      refine lv_goto (tgt := 204) K.1 K.2.1 dX8_field_197 (by decide) ?_
      refine pM_0_18 K hw kf_X8_140 dX8_field_204 (fun H locs hw => ?_)
      refine lv_goto (tgt := 281) K.1 K.2.1 dX8_field_207 (by decide) ?_
      exact ret (congrArg (mdW a cA) (by exact (Eq.trans e0 (Eq.trans (if_neg c188) rfl)))) hw dX8_field_281
  have J147 : ∀ (σ : PS) (y1 : Int32) (y2 : Int32) (H : Heap) (locs : List Loc) (ls : Array Slot), WD D A s.heap (mdW a cA σ) H locs → lv_has ls 3 [(0, .ref (a 0)), (1, .int y1), (2, .int y2)] → Bm σ → 0 ≤ (σ.1 27).toInt → f_X8_field σ0 x1 = g_X8_field_147 σ y1 y2 → W p l e rm_X8_field s m args below meth c H locs 0 0 Q (F0 m 147 ls []) := by
    intro σ y1 y2 H locs ls hw hl hI hp e0
    refine lv_iload_n K.1 K.2.1 dX8_field_147 rfl (lv_at hl 2 rfl) ?_
    refine lv_if_eq (tgt := 210) K.1 K.2.1 dX8_field_148 (by decide) (fun c148 => ?_) (fun c148 => ?_)
    · refine lv_iload_n K.1 K.2.1 dX8_field_210 rfl (lv_at hl 1 rfl) ?_
      refine lv_bipush (v := 64) K.1 K.2.1 dX8_field_211 (by decide) ?_
      refine lv_icmp_lt (tgt := 222) K.1 K.2.1 dX8_field_213 (by decide) (fun c213 => ?_) (fun c213 => ?_)
      · exact J222 _ _ _ _ _ hw (lv_sub hl [0, 1] rfl) hI hp (by exact (Eq.trans e0 (Eq.trans (if_pos c148) (Eq.trans (if_pos c213) rfl))))
      · refine lv_iload_n K.1 K.2.1 dX8_field_216 rfl (lv_at hl 1 rfl) ?_
        refine lv_bipush (v := 94) K.1 K.2.1 dX8_field_217 (by decide) ?_
        refine lv_icmp_le (tgt := 234) K.1 K.2.1 dX8_field_219 (by decide) (fun c219 => ?_) (fun c219 => ?_)
        · exact J234 _ _ _ _ _ hw (lv_sub hl [0, 1] rfl) hI hp (by exact (Eq.trans e0 (Eq.trans (if_pos c148) (Eq.trans (if_neg c213) (Eq.trans (if_pos c219) rfl)))))
        · exact J222 _ _ _ _ _ hw (lv_sub hl [0, 1] rfl) hI hp (by exact (Eq.trans e0 (Eq.trans (if_pos c148) (Eq.trans (if_neg c213) (Eq.trans (if_neg c219) rfl)))))
    · refine lv_aload_n K.1 K.2.1 dX8_field_151 rfl (lv_at hl 0 rfl) ?_
      refine lv_aload_n K.1 K.2.1 dX8_field_152 rfl (lv_at hl 0 rfl) ?_
      refine gM_0_18 K hw kf_X8_140 dX8_field_153 ?_
      refine lv_iconst (v := 4) K.1 K.2.1 dX8_field_156 (by decide) ?_
      refine lv_icmp_ge (tgt := 175) K.1 K.2.1 dX8_field_157 (by decide) (fun c157 => ?_) (fun c157 => ?_)
      · refine lv_aload_n K.1 K.2.1 dX8_field_175 rfl (lv_at hl 0 rfl) ?_
        refine gM_0_17 K hw kf_X8_137 dX8_field_176 ?_
        exact J179 _ _ _ _ _ hw (lv_sub hl [0] rfl) hI (by exact (Eq.trans e0 (Eq.trans (if_neg c148) (Eq.trans (if_pos c157) rfl))))
      · refine lv_bipush (v := 10) K.1 K.2.1 dX8_field_160 (by decide) ?_
        refine lv_aload_n K.1 K.2.1 dX8_field_162 rfl (lv_at hl 0 rfl) ?_
        refine gM_0_17 K hw kf_X8_137 dX8_field_163 ?_
        refine lv_imul K.1 K.2.1 dX8_field_166 ?_
        refine lv_iload_n K.1 K.2.1 dX8_field_167 rfl (lv_at hl 1 rfl) ?_
        refine lv_iadd K.1 K.2.1 dX8_field_168 ?_
        refine lv_bipush (v := 48) K.1 K.2.1 dX8_field_169 (by decide) ?_
        refine lv_isub K.1 K.2.1 dX8_field_171 ?_
        refine lv_goto (tgt := 179) K.1 K.2.1 dX8_field_172 (by decide) ?_
        exact J179 _ _ _ _ _ hw (lv_sub hl [0] rfl) hI (by exact (Eq.trans e0 (Eq.trans (if_neg c148) (Eq.trans (if_neg c157) rfl))))
  have J125 : ∀ (σ : PS) (y1 : Int32) (y2 : Int32) (H : Heap) (locs : List Loc) (ls : Array Slot), WD D A s.heap (mdW a cA σ) H locs → lv_has ls 3 [(0, .ref (a 0)), (1, .int y1), (2, .int y2)] → Bm σ → 0 ≤ (σ.1 27).toInt → f_X8_field σ0 x1 = g_X8_field_125 σ y1 y2 → W p l e rm_X8_field s m args below meth c H locs 0 0 Q (F0 m 125 ls []) := by
    intro σ y1 y2 H locs ls hw hl hI hp e0
    refine lv_aload_n K.1 K.2.1 dX8_field_125 rfl (lv_at hl 0 rfl) ?_
    refine gM_0_13 K hw kf_X8_125 dX8_field_126 ?_
    refine lv_iconst (v := 2) K.1 K.2.1 dX8_field_129 (by decide) ?_
    refine lv_icmp_ge (tgt := 147) K.1 K.2.1 dX8_field_130 (by decide) (fun c130 => ?_) (fun c130 => ?_)
    · exact J147 _ _ _ _ _ _ hw (lv_sub hl [0, 1, 2] rfl) hI hp (by exact (Eq.trans e0 (Eq.trans (if_pos c130) rfl)))
    · refine lv_iload_n K.1 K.2.1 dX8_field_133 rfl (lv_at hl 1 rfl) ?_
      refine lv_bipush (v := 46) K.1 K.2.1 dX8_field_134 (by decide) ?_
      refine lv_icmp_ne (tgt := 147) K.1 K.2.1 dX8_field_136 (by decide) (fun c136 => ?_) (fun c136 => ?_)
      · exact J147 _ _ _ _ _ _ hw (lv_sub hl [0, 1, 2] rfl) hI hp (by exact (Eq.trans e0 (Eq.trans (if_neg c130) (Eq.trans (if_neg c136) rfl))))
      · refine lv_aload_n K.1 K.2.1 dX8_field_139 rfl (lv_at hl 0 rfl) ?_
        refine lv_iconst (v := 2) K.1 K.2.1 dX8_field_140 (by decide) ?_
        refine pM_0_13 K hw kf_X8_125 dX8_field_141 (fun H locs hw => ?_)
        refine lv_goto (tgt := 281) K.1 K.2.1 dX8_field_144 (by decide) ?_
        exact ret (congrArg (mdW a cA) (by exact (Eq.trans e0 (Eq.trans (if_neg c130) (Eq.trans (if_pos c136) rfl))))) hw dX8_field_281
  have J65 : ∀ (σ : PS) (y1 : Int32) (y2 : Int32) (H : Heap) (locs : List Loc) (ls : Array Slot), WD D A s.heap (mdW a cA σ) H locs → lv_has ls 3 [(0, .ref (a 0)), (1, .int y1), (2, .int y2)] → Bm σ → 0 ≤ (σ.1 27).toInt → f_X8_field σ0 x1 = g_X8_field_65 σ y1 y2 → W p l e rm_X8_field s m args below meth c H locs 0 0 Q (F0 m 65 ls []) := by
    intro σ y1 y2 H locs ls hw hl hI hp e0
    refine lv_aload_n K.1 K.2.1 dX8_field_65 rfl (lv_at hl 0 rfl) ?_
    refine gM_0_13 K hw kf_X8_125 dX8_field_66 ?_
    refine lv_iconst (v := 2) K.1 K.2.1 dX8_field_69 (by decide) ?_
    refine lv_icmp_ge (tgt := 125) K.1 K.2.1 dX8_field_70 (by decide) (fun c70 => ?_) (fun c70 => ?_)
    · exact J125 _ _ _ _ _ _ hw (lv_sub hl [0, 1, 2] rfl) hI hp (by exact (Eq.trans e0 (Eq.trans (if_pos c70) rfl)))
    · refine lv_iload_n K.1 K.2.1 dX8_field_73 rfl (lv_at hl 2 rfl) ?_
      refine lv_if_eq (tgt := 125) K.1 K.2.1 dX8_field_74 (by decide) (fun c74 => ?_) (fun c74 => ?_)
      · exact J125 _ _ _ _ _ _ hw (lv_sub hl [0, 1, 2] rfl) hI hp (by exact (Eq.trans e0 (Eq.trans (if_neg c70) (Eq.trans (if_pos c74) rfl))))
      · refine lv_aload_n K.1 K.2.1 dX8_field_77 rfl (lv_at hl 0 rfl) ?_
        refine lv_aload_n K.1 K.2.1 dX8_field_78 rfl (lv_at hl 0 rfl) ?_
        refine gM_0_16 K hw kf_X8_134 dX8_field_79 ?_
        refine lv_bipush (v := 10) K.1 K.2.1 dX8_field_82 (by decide) ?_
        refine lv_imul K.1 K.2.1 dX8_field_84 ?_
        refine lv_iload_n K.1 K.2.1 dX8_field_85 rfl (lv_at hl 1 rfl) ?_
        refine lv_iadd K.1 K.2.1 dX8_field_86 ?_
        refine lv_bipush (v := 48) K.1 K.2.1 dX8_field_87 (by decide) ?_
        refine lv_isub K.1 K.2.1 dX8_field_89 ?_
        refine lv_sipush (v := 32767) K.1 K.2.1 dX8_field_90 (by decide) ?_
        refine lv_icmp_le (tgt := 102) K.1 K.2.1 dX8_field_93 (by decide) (fun c93 => ?_) (fun c93 => ?_)
        · refine lv_aload_n K.1 K.2.1 dX8_field_102 rfl (lv_at hl 0 rfl) ?_
          refine gM_0_16 K hw kf_X8_134 dX8_field_103 ?_
          refine lv_bipush (v := 10) K.1 K.2.1 dX8_field_106 (by decide) ?_
          refine lv_imul K.1 K.2.1 dX8_field_108 ?_
          refine lv_iload_n K.1 K.2.1 dX8_field_109 rfl (lv_at hl 1 rfl) ?_
          refine lv_iadd K.1 K.2.1 dX8_field_110 ?_
          refine lv_bipush (v := 48) K.1 K.2.1 dX8_field_111 (by decide) ?_
          refine lv_isub K.1 K.2.1 dX8_field_113 ?_
          refine pM_0_16 K hw kf_X8_134 dX8_field_114 (fun H locs hw => ?_)
          refine lv_aload_n K.1 K.2.1 dX8_field_117 rfl (lv_at hl 0 rfl) ?_
          refine lv_iconst (v := 1) K.1 K.2.1 dX8_field_118 (by decide) ?_
          refine pM_0_13 K hw kf_X8_125 dX8_field_119 (fun H locs hw => ?_)
          refine lv_goto (tgt := 281) K.1 K.2.1 dX8_field_122 (by decide) ?_
          exact ret (congrArg (mdW a cA) (by exact (Eq.trans e0 (Eq.trans (if_neg c70) (Eq.trans (if_neg c74) (Eq.trans (if_pos c93) rfl)))))) hw dX8_field_281
        · refine lv_sipush (v := 32767) K.1 K.2.1 dX8_field_96 (by decide) ?_
          refine lv_goto (tgt := 114) K.1 K.2.1 dX8_field_99 (by decide) ?_
          refine pM_0_16 K hw kf_X8_134 dX8_field_114 (fun H locs hw => ?_)
          refine lv_aload_n K.1 K.2.1 dX8_field_117 rfl (lv_at hl 0 rfl) ?_
          refine lv_iconst (v := 1) K.1 K.2.1 dX8_field_118 (by decide) ?_
          refine pM_0_13 K hw kf_X8_125 dX8_field_119 (fun H locs hw => ?_)
          refine lv_goto (tgt := 281) K.1 K.2.1 dX8_field_122 (by decide) ?_
          exact ret (congrArg (mdW a cA) (by exact (Eq.trans e0 (Eq.trans (if_neg c70) (Eq.trans (if_neg c74) (Eq.trans (if_neg c93) rfl)))))) hw dX8_field_281
  have J37 : ∀ (σ : PS) (y1 : Int32) (H : Heap) (locs : List Loc) (ls : Array Slot), WD D A s.heap (mdW a cA σ) H locs → lv_has ls 3 [(0, .ref (a 0)), (1, .int y1)] → Bm σ → f_X8_field σ0 x1 = g_X8_field_37 σ y1 → W p l e rm_X8_field s m args below meth c H locs 0 0 Q (F0 m 37 ls []) := by
    intro σ y1 H locs ls hw hl hI e0
    refine lv_aload_n K.1 K.2.1 dX8_field_37 rfl (lv_at hl 0 rfl) ?_
    refine lv_iconst (v := 1) K.1 K.2.1 dX8_field_38 (by decide) ?_
    refine pM_0_14 K hw rfl rfl kf_X8_128 dX8_field_39 (fun H locs hw => ?_)
    refine lv_aload_n K.1 K.2.1 dX8_field_42 rfl (lv_at hl 0 rfl) ?_
    refine lv_iload_n K.1 K.2.1 dX8_field_43 rfl (lv_at hl 1 rfl) ?_
    refine lv_bipush (v := 45) K.1 K.2.1 dX8_field_44 (by decide) ?_
    refine lv_icmp_ne (tgt := 53) K.1 K.2.1 dX8_field_46 (by decide) (fun c46 => ?_) (fun c46 => ?_)
    · refine lv_iconst (v := 0) K.1 K.2.1 dX8_field_53 (by decide) ?_
      refine pM_0_15 K hw rfl rfl kf_X8_131 dX8_field_54 (fun H locs hw => ?_)
      refine lv_aload_n K.1 K.2.1 dX8_field_57 rfl (lv_at hl 0 rfl) ?_
      refine lv_iconst (v := 1) K.1 K.2.1 dX8_field_58 (by decide) ?_
      refine pM_0_13 K hw kf_X8_125 dX8_field_59 (fun H locs hw => ?_)
      refine lv_goto (tgt := 281) K.1 K.2.1 dX8_field_62 (by decide) ?_
      exact ret (congrArg (mdW a cA) (by exact (Eq.trans e0 (Eq.trans (if_neg c46) rfl)))) hw dX8_field_281
    · refine lv_iconst (v := 1) K.1 K.2.1 dX8_field_49 (by decide) ?_
      refine lv_goto (tgt := 54) K.1 K.2.1 dX8_field_50 (by decide) ?_
      refine pM_0_15 K hw rfl rfl kf_X8_131 dX8_field_54 (fun H locs hw => ?_)
      refine lv_aload_n K.1 K.2.1 dX8_field_57 rfl (lv_at hl 0 rfl) ?_
      refine lv_iconst (v := 1) K.1 K.2.1 dX8_field_58 (by decide) ?_
      refine pM_0_13 K hw kf_X8_125 dX8_field_59 (fun H locs hw => ?_)
      refine lv_goto (tgt := 281) K.1 K.2.1 dX8_field_62 (by decide) ?_
      exact ret (congrArg (mdW a cA) (by exact (Eq.trans e0 (Eq.trans (if_pos c46) rfl)))) hw dX8_field_281
  have J17 : ∀ (σ : PS) (y1 : Int32) (k0 : Int32) (H : Heap) (locs : List Loc) (ls : Array Slot), WD D A s.heap (mdW a cA σ) H locs → lv_has ls 3 [(0, .ref (a 0)), (1, .int y1)] → Bm σ → 0 ≤ (σ.1 27).toInt → f_X8_field σ0 x1 = g_X8_field_17 σ y1 k0 → W p l e rm_X8_field s m args below meth c H locs 0 0 Q (F0 m 17 ls [.int k0]) := by
    intro σ y1 k0 H locs ls hw hl hI hp e0
    refine lv_istore_n (lv' := [(2, .int k0), (0, .ref (a 0)), (1, .int y1)]) K.1 K.2.1 dX8_field_17 rfl hl (by decide) rfl (fun ls hl => ?_)
    refine lv_aload_n K.1 K.2.1 dX8_field_18 rfl (lv_at hl 1 rfl) ?_
    refine gM_0_13 K hw kf_X8_125 dX8_field_19 ?_
    refine lv_if_ne (tgt := 65) K.1 K.2.1 dX8_field_22 (by decide) (fun c22 => ?_) (fun c22 => ?_)
    · exact J65 _ _ _ _ _ _ hw (lv_sub hl [1, 2, 0] rfl) hI hp (by exact (Eq.trans e0 (Eq.trans (if_neg c22) rfl)))
    · refine lv_iload_n K.1 K.2.1 dX8_field_25 rfl (lv_at hl 2 rfl) ?_
      refine lv_bipush (v := 43) K.1 K.2.1 dX8_field_26 (by decide) ?_
      refine lv_icmp_eq (tgt := 37) K.1 K.2.1 dX8_field_28 (by decide) (fun c28 => ?_) (fun c28 => ?_)
      · exact J37 _ _ _ _ _ hw (lv_sub hl [1, 2] rfl) hI (by exact (Eq.trans e0 (Eq.trans (if_pos c22) (Eq.trans (if_pos c28) rfl))))
      · refine lv_iload_n K.1 K.2.1 dX8_field_31 rfl (lv_at hl 2 rfl) ?_
        refine lv_bipush (v := 45) K.1 K.2.1 dX8_field_32 (by decide) ?_
        refine lv_icmp_ne (tgt := 65) K.1 K.2.1 dX8_field_34 (by decide) (fun c34 => ?_) (fun c34 => ?_)
        · exact J65 _ _ _ _ _ _ hw (lv_sub hl [1, 2, 0] rfl) hI hp (by exact (Eq.trans e0 (Eq.trans (if_pos c22) (Eq.trans (if_neg c28) (Eq.trans (if_neg c34) rfl)))))
        · exact J37 _ _ _ _ _ hw (lv_sub hl [1, 2] rfl) hI (by exact (Eq.trans e0 (Eq.trans (if_pos c22) (Eq.trans (if_neg c28) (Eq.trans (if_pos c34) rfl)))))
  have J16 : ∀ (σ : PS) (y1 : Int32) (H : Heap) (locs : List Loc) (ls : Array Slot), WD D A s.heap (mdW a cA σ) H locs → lv_has ls 3 [(0, .ref (a 0)), (1, .int y1)] → Bm σ → 0 ≤ (σ.1 27).toInt → f_X8_field σ0 x1 = g_X8_field_16 σ y1 → W p l e rm_X8_field s m args below meth c H locs 0 0 Q (F0 m 16 ls []) := by
    intro σ y1 H locs ls hw hl hI hp e0
    refine lv_iconst (v := 0) K.1 K.2.1 dX8_field_16 (by decide) ?_
    exact J17 _ _ _ _ _ _ hw (lv_sub hl [0, 1] rfl) hI hp (by exact (Eq.trans e0 rfl))
  refine lv_iload_n K.1 K.2.1 dX8_field_0 rfl (lv_at hl 1 rfl) ?_
  refine lv_bipush (v := 48) K.1 K.2.1 dX8_field_1 (by decide) ?_
  refine lv_icmp_lt (tgt := 16) K.1 K.2.1 dX8_field_3 (by decide) (fun c3 => ?_) (fun c3 => ?_)
  · exact J16 _ _ _ _ _ hw (lv_sub hl [0, 1] rfl) hI hp (by exact (Eq.trans (if_pos c3) rfl))
  · refine lv_iload_n K.1 K.2.1 dX8_field_6 rfl (lv_at hl 1 rfl) ?_
    refine lv_bipush (v := 57) K.1 K.2.1 dX8_field_7 (by decide) ?_
    refine lv_icmp_gt (tgt := 16) K.1 K.2.1 dX8_field_9 (by decide) (fun c9 => ?_) (fun c9 => ?_)
    · exact J16 _ _ _ _ _ hw (lv_sub hl [0, 1] rfl) hI hp (by exact (Eq.trans (if_neg c3) (Eq.trans (if_pos c9) rfl)))
    · refine lv_iconst (v := 1) K.1 K.2.1 dX8_field_12 (by decide) ?_
      refine lv_goto (tgt := 17) K.1 K.2.1 dX8_field_13 (by decide) ?_
      exact J17 _ _ _ _ _ _ hw (lv_sub hl [0, 1] rfl) hI hp (by exact (Eq.trans (if_neg c3) (Eq.trans (if_neg c9) rfl)))
def g_X8_comes_104 (σ : PS) (y1 : Int32) : PS := let s106 : PS := f_X8_field σ y1; s106
def g_X8_comes_79 (σ : PS) (y1 : Int32) : PS := (if (σ.1 10) ≤ 1 then (if y1 = 27 then (upS σ 10 1) else (if y1 < 32 then let s142 : PS := f_X8_control σ y1; s142 else let s134 : PS := f_X8_character σ y1; s134)) else (if (σ.1 10) = 2 then let s101 : PS := f_X8_beginField (upS σ 10 3); (g_X8_comes_104 s101 y1) else (g_X8_comes_104 σ y1)))
def f_X8_comes (σ0 : PS) (x1 : Int32) : PS := (if (σ0.1 10) = 4 then let s20 : PS := f_X8_datum (upS σ0 22 ((σ0.1 22) + 1)) x1; s20 else (if (σ0.1 10) = 1 then let s36 : PS := f_X8_behindEsc (upS σ0 22 ((σ0.1 22) + 1)) x1; s36 else (if (σ0.1 10) = 2 then (if x1 < 96 then (g_X8_comes_79 (upS σ0 22 ((σ0.1 22) + 1)) x1) else (if 126 < x1 then (g_X8_comes_79 (upS σ0 22 ((σ0.1 22) + 1)) x1) else let s73 : PS := f_X8_beginField (upS (upS (upS σ0 22 ((σ0.1 22) + 1)) 12 x1) 10 3); s73)) else (g_X8_comes_79 (upS σ0 22 ((σ0.1 22) + 1)) x1))))
theorem bm_g_X8_comes_104 {σ : PS} {y1 : Int32} (hI : Bm σ) : Bm (g_X8_comes_104 σ y1) := (bm_X8_field hI)
theorem bm_g_X8_comes_79 {σ : PS} {y1 : Int32} (hI : Bm σ) : Bm (g_X8_comes_79 σ y1) := (bxI (fun c84 => (bxI (fun c115 => (bmS_10 hI)) (fun c115 => (bxI (fun c129 => (bm_X8_control hI)) (fun c129 => (bm_X8_character hI)))))) (fun c84 => (bxI (fun c92 => (bm_g_X8_comes_104 (bm_X8_beginField (bmS_10 hI)))) (fun c92 => (bm_g_X8_comes_104 hI)))))
theorem bm_X8_comes {σ0 : PS} {x1 : Int32} (hI : Bm σ0) : Bm (f_X8_comes σ0 x1) := (bxI (fun c15 => (bm_X8_datum (bmS_22 hI))) (fun c15 => (bxI (fun c31 => (bm_X8_behindEsc (bmS_22 hI))) (fun c31 => (bxI (fun c47 => (bxI (fun c53 => (bm_g_X8_comes_79 (bmS_22 hI))) (fun c53 => (bxI (fun c59 => (bm_g_X8_comes_79 (bmS_22 hI))) (fun c59 => (bm_X8_beginField (bmS_10 (bmS_12 (bmS_22 hI))))))))) (fun c47 => (bm_g_X8_comes_79 (bmS_22 hI))))))))
theorem pm_g_X8_comes_104 {n : Int} {σ : PS} {y1 : Int32} (hP : Pm n σ) (hn : n ≤ 2147483646) : Pm (n + 1) (g_X8_comes_104 σ y1) := (pm_X8_field hP hn)
theorem pm_g_X8_comes_79 {n : Int} {σ : PS} {y1 : Int32} (hP : Pm n σ) (hn : n ≤ 2147483646) : Pm (n + 1) (g_X8_comes_79 σ y1) := (bxI (fun c84 => (bxI (fun c115 => (pm_w hP)) (fun c115 => (bxI (fun c129 => (pm_X8_control hP hn)) (fun c129 => (pm_X8_character hP hn)))))) (fun c84 => (bxI (fun c92 => (pm_g_X8_comes_104 (pm_X8_beginField hP) hn)) (fun c92 => (pm_g_X8_comes_104 hP hn)))))
theorem pm_X8_comes {n : Int} {σ0 : PS} {x1 : Int32} (hP : Pm n σ0) (hn : n ≤ 2147483646) : Pm (n + 1) (f_X8_comes σ0 x1) := (bxI (fun c15 => (pm_X8_datum hP hn)) (fun c15 => (bxI (fun c31 => (pm_X8_behindEsc hP hn)) (fun c31 => (bxI (fun c47 => (bxI (fun c53 => (pm_g_X8_comes_79 hP hn)) (fun c53 => (bxI (fun c59 => (pm_g_X8_comes_79 hP hn)) (fun c59 => (pm_w (pm_X8_beginField hP))))))) (fun c47 => (pm_g_X8_comes_79 hP hn)))))))
abbrev rm_X8_comes : Room := { frames := 8, cells := 0, slots := 0, locals := 183 }
set_option maxHeartbeats 4000000 in
set_option maxRecDepth 100000 in
theorem c_X8_comes (l : Launch) (D : va_G) (a : Nat → Nat) (cA : Nat → ClassId) (σ0 : PS) (x1 : Int32) (hI : Bm σ0) (hp : 0 ≤ (σ0.1 27).toInt) (hb : 0 ≤ x1.toInt ∧ x1.toInt ≤ 255) (h3 : M3 σ0) : CV l yX8_comes cX8_comes 2 rm_X8_comes D (mdT cA) [.ref (a 0), .int x1] (mdW a cA σ0) (mdW a cA (f_X8_comes σ0 x1)) := by
  refine en_v (by decide +kernel) (Nat.le_of_ble_eq_true rfl) ?_
  intro p e s m args below meth c A ls Q K hw hl ret
  have hl : lv_has ls 2 [(0, .ref (a 0)), (1, .int x1)] := hl
  have J104 : ∀ (σ : PS) (y1 : Int32) (H : Heap) (locs : List Loc) (ls : Array Slot), WD D A s.heap (mdW a cA σ) H locs → lv_has ls 2 [(0, .ref (a 0)), (1, .int y1)] → Bm σ → 0 ≤ (σ.1 27).toInt → f_X8_comes σ0 x1 = g_X8_comes_104 σ y1 → W p l e rm_X8_comes s m args below meth c H locs 0 0 Q (F0 m 104 ls []) := by
    intro σ y1 H locs ls hw hl hI hp e0
    refine lv_aload_n K.1 K.2.1 dX8_comes_104 rfl (lv_at hl 0 rfl) ?_
    refine lv_iload_n K.1 K.2.1 dX8_comes_105 rfl (lv_at hl 1 rfl) ?_
    refine caV K hw (c_X8_field l D a cA _ _ hI hp) hl.1 (tt_V km_X8_200 kI_X8_field ks_X8_field ki_X8 kC_X8_field) 0 (ci := 8) rfl rfl rfl (na := 1) rfl (by decide +kernel) ⟨rfl, rfl⟩ (by decide) ⟨Nat.zero_le _, Nat.zero_le _⟩ rfl (Nat.le_of_ble_eq_true rfl) dX8_comes_106 (fun H locs hw => ?_)
    obtain ⟨s106, es106, hw⟩ := nmM hw
    have hI106 : Bm s106 := by rw [es106]; exact bm_X8_field hI
    refine lv_goto (tgt := 145) K.1 K.2.1 dX8_comes_109 (by decide) ?_
    exact ret (congrArg (mdW a cA) (by subst es106; exact (Eq.trans e0 rfl))) hw dX8_comes_145
  have J79 : ∀ (σ : PS) (y1 : Int32) (H : Heap) (locs : List Loc) (ls : Array Slot), WD D A s.heap (mdW a cA σ) H locs → lv_has ls 2 [(0, .ref (a 0)), (1, .int y1)] → Bm σ → 0 ≤ (σ.1 27).toInt → 0 ≤ y1.toInt ∧ y1.toInt ≤ 255 → f_X8_comes σ0 x1 = g_X8_comes_79 σ y1 → W p l e rm_X8_comes s m args below meth c H locs 0 0 Q (F0 m 79 ls []) := by
    intro σ y1 H locs ls hw hl hI hp hb e0
    refine lv_aload_n K.1 K.2.1 dX8_comes_79 rfl (lv_at hl 0 rfl) ?_
    refine gM_0_10 K hw kf_X8_143 dX8_comes_80 ?_
    refine lv_iconst (v := 1) K.1 K.2.1 dX8_comes_83 (by decide) ?_
    refine lv_icmp_le (tgt := 112) K.1 K.2.1 dX8_comes_84 (by decide) (fun c84 => ?_) (fun c84 => ?_)
    · refine lv_iload_n K.1 K.2.1 dX8_comes_112 rfl (lv_at hl 1 rfl) ?_
      refine lv_bipush (v := 27) K.1 K.2.1 dX8_comes_113 (by decide) ?_
      refine lv_icmp_ne (tgt := 126) K.1 K.2.1 dX8_comes_115 (by decide) (fun c115 => ?_) (fun c115 => ?_)
      · refine lv_iload_n K.1 K.2.1 dX8_comes_126 rfl (lv_at hl 1 rfl) ?_
        refine lv_bipush (v := 32) K.1 K.2.1 dX8_comes_127 (by decide) ?_
        refine lv_icmp_lt (tgt := 140) K.1 K.2.1 dX8_comes_129 (by decide) (fun c129 => ?_) (fun c129 => ?_)
        · refine lv_aload_n K.1 K.2.1 dX8_comes_140 rfl (lv_at hl 0 rfl) ?_
          refine lv_iload_n K.1 K.2.1 dX8_comes_141 rfl (lv_at hl 1 rfl) ?_
          refine caV K hw (c_X8_control l D a cA _ _ hI hp) hl.1 (tt_V km_X8_203 kI_X8_control ks_X8_control ki_X8 kC_X8_control) 0 (ci := 8) rfl rfl rfl (na := 1) rfl (by decide +kernel) ⟨rfl, rfl⟩ (by decide) ⟨Nat.zero_le _, Nat.zero_le _⟩ rfl (Nat.le_of_ble_eq_true rfl) dX8_comes_142 (fun H locs hw => ?_)
          obtain ⟨s142, es142, hw⟩ := nmM hw
          have hI142 : Bm s142 := by rw [es142]; exact bm_X8_control hI
          exact ret (congrArg (mdW a cA) (by subst es142; exact (Eq.trans e0 (Eq.trans (if_pos c84) (Eq.trans (if_neg c115) (Eq.trans (if_pos c129) rfl)))))) hw dX8_comes_145
        · refine lv_aload_n K.1 K.2.1 dX8_comes_132 rfl (lv_at hl 0 rfl) ?_
          refine lv_iload_n K.1 K.2.1 dX8_comes_133 rfl (lv_at hl 1 rfl) ?_
          refine caV K hw (c_X8_character l D a cA _ _ hI hp hb) hl.1 (tt_V km_X8_185 kI_X8_character ks_X8_character ki_X8 kC_X8_character) 0 (ci := 8) rfl rfl rfl (na := 1) rfl (by decide +kernel) ⟨rfl, rfl⟩ (by decide) ⟨Nat.zero_le _, Nat.zero_le _⟩ rfl (Nat.le_of_ble_eq_true rfl) dX8_comes_134 (fun H locs hw => ?_)
          obtain ⟨s134, es134, hw⟩ := nmM hw
          have hI134 : Bm s134 := by rw [es134]; exact bm_X8_character hI
          refine lv_goto (tgt := 145) K.1 K.2.1 dX8_comes_137 (by decide) ?_
          exact ret (congrArg (mdW a cA) (by subst es134; exact (Eq.trans e0 (Eq.trans (if_pos c84) (Eq.trans (if_neg c115) (Eq.trans (if_neg c129) rfl)))))) hw dX8_comes_145
      · refine lv_aload_n K.1 K.2.1 dX8_comes_118 rfl (lv_at hl 0 rfl) ?_
        refine lv_iconst (v := 1) K.1 K.2.1 dX8_comes_119 (by decide) ?_
        refine pM_0_10 K hw kf_X8_143 dX8_comes_120 (fun H locs hw => ?_)
        refine lv_goto (tgt := 145) K.1 K.2.1 dX8_comes_123 (by decide) ?_
        exact ret (congrArg (mdW a cA) (by exact (Eq.trans e0 (Eq.trans (if_pos c84) (Eq.trans (if_pos c115) rfl))))) hw dX8_comes_145
    · refine lv_aload_n K.1 K.2.1 dX8_comes_87 rfl (lv_at hl 0 rfl) ?_
      refine gM_0_10 K hw kf_X8_143 dX8_comes_88 ?_
      refine lv_iconst (v := 2) K.1 K.2.1 dX8_comes_91 (by decide) ?_
      refine lv_icmp_ne (tgt := 104) K.1 K.2.1 dX8_comes_92 (by decide) (fun c92 => ?_) (fun c92 => ?_)
      · exact J104 _ _ _ _ _ hw (lv_sub hl [0, 1] rfl) hI hp (by exact (Eq.trans e0 (Eq.trans (if_neg c84) (Eq.trans (if_neg c92) rfl))))
      · refine lv_aload_n K.1 K.2.1 dX8_comes_95 rfl (lv_at hl 0 rfl) ?_
        refine lv_iconst (v := 3) K.1 K.2.1 dX8_comes_96 (by decide) ?_
        refine pM_0_10 K hw kf_X8_143 dX8_comes_97 (fun H locs hw => ?_)
        refine lv_aload_n K.1 K.2.1 dX8_comes_100 rfl (lv_at hl 0 rfl) ?_
        refine caV K hw (c_X8_beginField l D a cA _) hl.1 (tt_V km_X8_179 kI_X8_beginField ks_X8_beginField ki_X8 kC_X8_beginField) 0 (ci := 8) rfl rfl rfl (na := 0) rfl (by decide +kernel) ⟨rfl, rfl⟩ (by decide) ⟨Nat.zero_le _, Nat.zero_le _⟩ rfl (Nat.le_of_ble_eq_true rfl) dX8_comes_101 (fun H locs hw => ?_)
        obtain ⟨s101, es101, hw⟩ := nmM hw
        have hI101 : Bm s101 := by rw [es101]; exact bm_X8_beginField (bmS_10 hI)
        have hp101 : 0 ≤ (s101.1 27).toInt := by rw [es101]; exact (pm_X8_beginField ⟨hp, Int.le_refl _⟩).1
        exact J104 _ _ _ _ _ hw (lv_sub hl [0, 1] rfl) hI101 hp101 (by subst es101; exact (Eq.trans e0 (Eq.trans (if_neg c84) (Eq.trans (if_pos c92) rfl))))
  refine lv_aload_n K.1 K.2.1 dX8_comes_0 rfl (lv_at hl 0 rfl) ?_
  refine lv_dup K.1 K.2.1 dX8_comes_1 rfl ?_
  refine gM_0_22 K hw kf_X8_191 dX8_comes_2 ?_
  refine lv_iconst (v := 1) K.1 K.2.1 dX8_comes_5 (by decide) ?_
  refine lv_iadd K.1 K.2.1 dX8_comes_6 ?_
  refine pM_0_22 K hw kf_X8_191 dX8_comes_7 (fun H locs hw => ?_)
  refine lv_aload_n K.1 K.2.1 dX8_comes_10 rfl (lv_at hl 0 rfl) ?_
  refine gM_0_10 K hw kf_X8_143 dX8_comes_11 ?_
  refine lv_iconst (v := 4) K.1 K.2.1 dX8_comes_14 (by decide) ?_
  refine lv_icmp_ne (tgt := 26) K.1 K.2.1 dX8_comes_15 (by decide) (fun c15 => ?_) (fun c15 => ?_)
  · refine lv_aload_n K.1 K.2.1 dX8_comes_26 rfl (lv_at hl 0 rfl) ?_
    refine gM_0_10 K hw kf_X8_143 dX8_comes_27 ?_
    refine lv_iconst (v := 1) K.1 K.2.1 dX8_comes_30 (by decide) ?_
    refine lv_icmp_ne (tgt := 42) K.1 K.2.1 dX8_comes_31 (by decide) (fun c31 => ?_) (fun c31 => ?_)
    · refine lv_aload_n K.1 K.2.1 dX8_comes_42 rfl (lv_at hl 0 rfl) ?_
      refine gM_0_10 K hw kf_X8_143 dX8_comes_43 ?_
      refine lv_iconst (v := 2) K.1 K.2.1 dX8_comes_46 (by decide) ?_
      refine lv_icmp_ne (tgt := 79) K.1 K.2.1 dX8_comes_47 (by decide) (fun c47 => ?_) (fun c47 => ?_)
      · exact J79 _ _ _ _ _ hw (lv_sub hl [0, 1] rfl) (bmS_22 hI) hp hb (by exact (Eq.trans (if_neg c15) (Eq.trans (if_neg c31) (Eq.trans (if_neg c47) rfl))))
      · refine lv_iload_n K.1 K.2.1 dX8_comes_50 rfl (lv_at hl 1 rfl) ?_
        refine lv_bipush (v := 96) K.1 K.2.1 dX8_comes_51 (by decide) ?_
        refine lv_icmp_lt (tgt := 79) K.1 K.2.1 dX8_comes_53 (by decide) (fun c53 => ?_) (fun c53 => ?_)
        · exact J79 _ _ _ _ _ hw (lv_sub hl [0, 1] rfl) (bmS_22 hI) hp hb (by exact (Eq.trans (if_neg c15) (Eq.trans (if_neg c31) (Eq.trans (if_pos c47) (Eq.trans (if_pos c53) rfl)))))
        · refine lv_iload_n K.1 K.2.1 dX8_comes_56 rfl (lv_at hl 1 rfl) ?_
          refine lv_bipush (v := 126) K.1 K.2.1 dX8_comes_57 (by decide) ?_
          refine lv_icmp_gt (tgt := 79) K.1 K.2.1 dX8_comes_59 (by decide) (fun c59 => ?_) (fun c59 => ?_)
          · exact J79 _ _ _ _ _ hw (lv_sub hl [0, 1] rfl) (bmS_22 hI) hp hb (by exact (Eq.trans (if_neg c15) (Eq.trans (if_neg c31) (Eq.trans (if_pos c47) (Eq.trans (if_neg c53) (Eq.trans (if_pos c59) rfl))))))
          · refine lv_aload_n K.1 K.2.1 dX8_comes_62 rfl (lv_at hl 0 rfl) ?_
            refine lv_iload_n K.1 K.2.1 dX8_comes_63 rfl (lv_at hl 1 rfl) ?_
            refine pM_0_12 K hw kf_X8_152 dX8_comes_64 (fun H locs hw => ?_)
            refine lv_aload_n K.1 K.2.1 dX8_comes_67 rfl (lv_at hl 0 rfl) ?_
            refine lv_iconst (v := 3) K.1 K.2.1 dX8_comes_68 (by decide) ?_
            refine pM_0_10 K hw kf_X8_143 dX8_comes_69 (fun H locs hw => ?_)
            refine lv_aload_n K.1 K.2.1 dX8_comes_72 rfl (lv_at hl 0 rfl) ?_
            refine caV K hw (c_X8_beginField l D a cA _) hl.1 (tt_V km_X8_179 kI_X8_beginField ks_X8_beginField ki_X8 kC_X8_beginField) 0 (ci := 8) rfl rfl rfl (na := 0) rfl (by decide +kernel) ⟨rfl, rfl⟩ (by decide) ⟨Nat.zero_le _, Nat.zero_le _⟩ rfl (Nat.le_of_ble_eq_true rfl) dX8_comes_73 (fun H locs hw => ?_)
            obtain ⟨s73, es73, hw⟩ := nmM hw
            have hI73 : Bm s73 := by rw [es73]; exact bm_X8_beginField (bmS_10 (bmS_12 (bmS_22 hI)))
            have hp73 : 0 ≤ (s73.1 27).toInt := by rw [es73]; exact (pm_X8_beginField ⟨hp, Int.le_refl _⟩).1
            refine lv_goto (tgt := 145) K.1 K.2.1 dX8_comes_76 (by decide) ?_
            exact ret (congrArg (mdW a cA) (by subst es73; exact (Eq.trans (if_neg c15) (Eq.trans (if_neg c31) (Eq.trans (if_pos c47) (Eq.trans (if_neg c53) (Eq.trans (if_neg c59) rfl))))))) hw dX8_comes_145
    · refine lv_aload_n K.1 K.2.1 dX8_comes_34 rfl (lv_at hl 0 rfl) ?_
      refine lv_iload_n K.1 K.2.1 dX8_comes_35 rfl (lv_at hl 1 rfl) ?_
      refine caV K hw (c_X8_behindEsc l D a cA _ _ hp) hl.1 (tt_V km_X8_197 kI_X8_behindEsc ks_X8_behindEsc ki_X8 kC_X8_behindEsc) 0 (ci := 8) rfl rfl rfl (na := 1) rfl (by decide +kernel) ⟨rfl, rfl⟩ (by decide) ⟨Nat.zero_le _, Nat.zero_le _⟩ rfl (Nat.le_of_ble_eq_true rfl) dX8_comes_36 (fun H locs hw => ?_)
      obtain ⟨s36, es36, hw⟩ := nmM hw
      have hI36 : Bm s36 := by rw [es36]; exact bm_X8_behindEsc (bmS_22 hI)
      refine lv_goto (tgt := 145) K.1 K.2.1 dX8_comes_39 (by decide) ?_
      exact ret (congrArg (mdW a cA) (by subst es36; exact (Eq.trans (if_neg c15) (Eq.trans (if_pos c31) rfl)))) hw dX8_comes_145
  · refine lv_aload_n K.1 K.2.1 dX8_comes_18 rfl (lv_at hl 0 rfl) ?_
    refine lv_iload_n K.1 K.2.1 dX8_comes_19 rfl (lv_at hl 1 rfl) ?_
    refine caV K hw (c_X8_datum l D a cA _ _ (bmS_22 hI) hp hb (h3 c15)) hl.1 (tt_V km_X8_194 kI_X8_datum ks_X8_datum ki_X8 kC_X8_datum) 0 (ci := 8) rfl rfl rfl (na := 1) rfl (by decide +kernel) ⟨rfl, rfl⟩ (by decide) ⟨Nat.zero_le _, Nat.zero_le _⟩ rfl (Nat.le_of_ble_eq_true rfl) dX8_comes_20 (fun H locs hw => ?_)
    obtain ⟨s20, es20, hw⟩ := nmM hw
    have hI20 : Bm s20 := by rw [es20]; exact bm_X8_datum (bmS_22 hI)
    refine lv_goto (tgt := 145) K.1 K.2.1 dX8_comes_23 (by decide) ?_
    exact ret (congrArg (mdW a cA) (by subst es20; exact (Eq.trans (if_pos c15) rfl))) hw dX8_comes_145
