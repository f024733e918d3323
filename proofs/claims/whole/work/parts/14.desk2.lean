def g_X7_command_203 (σ : PS) (y5 : Int32) : PS := (if y5 = 0 then let s216 : PS := f_X3_add σ; s216 else σ)
def g_X7_command_154 (σ : PS) (k0 : Int32) : PS := (g_X7_command_203 σ k0)
def g_X7_command_149 (σ : PS) : PS := (g_X7_command_154 σ 1)
def g_X7_command_22 (σ : PS) (k0 : Int64) : PS := let x3_28 : Int64 := (k0 / 10000); (if (((σ.1 0) <<< (8 &&& 31)) ||| (σ.1 1)) = 9825 then let s136 : PS := (f_X7_marginCommand σ x3_28).1; (if (f_X7_marginCommand σ x3_28).2 = 0 then let s143 : PS := (f_X7_cursorCommand s136).1; (if (f_X7_cursorCommand s136).2 = 0 then (g_X7_command_154 s143 0) else (g_X7_command_149 s143)) else (g_X7_command_149 s136)) else (if (((σ.1 0) <<< (8 &&& 31)) ||| (σ.1 1)) = 9830 then let s171 : PS := (f_X7_stackCommand σ x3_28).1; let x5_174 : Int32 := (f_X7_stackCommand σ x3_28).2; (g_X7_command_203 s171 x5_174) else (if (((σ.1 0) <<< (8 &&& 31)) ||| (σ.1 1)) = 9835 then let s126 : PS := (f_X7_spacingCommand σ k0 x3_28).1; let x5_129 : Int32 := (f_X7_spacingCommand σ k0 x3_28).2; (g_X7_command_203 s126 x5_129) else (if (((σ.1 0) <<< (8 &&& 31)) ||| (σ.1 1)) = 9836 then let s115 : PS := (f_X7_pageCommand σ k0 x3_28).1; let x5_118 : Int32 := (f_X7_pageCommand σ k0 x3_28).2; (g_X7_command_203 s115 x5_118) else (if (((σ.1 0) <<< (8 &&& 31)) ||| (σ.1 1)) = 9840 then let x5_186 : Int32 := (f_X5_hasText σ); (g_X7_command_203 σ x5_186) else (if (((σ.1 0) <<< (8 &&& 31)) ||| (σ.1 1)) = 9843 then let s161 : PS := (f_X7_wrapCommand σ x3_28).1; let x5_164 : Int32 := (f_X7_wrapCommand σ x3_28).2; (g_X7_command_203 s161 x5_164) else (if (((σ.1 0) <<< (8 &&& 31)) ||| (σ.1 1)) = 10864 then let s192 : PS := (f_X7_dotCommand σ).1; let x5_195 : Int32 := (f_X7_dotCommand σ).2; (g_X7_command_203 s192 x5_195) else (g_X7_command_203 σ 0))))))))
def f_X7_command (σ0 : PS) : PS := (if 0 ≤ (σ0.1 2) then (g_X7_command_22 σ0 (Int32.toInt64 (σ0.1 2))) else (g_X7_command_22 σ0 0))
theorem bx_g_X7_command_203 {σ : PS} {y5 : Int32} (hI : Bx σ) : Bx (g_X7_command_203 σ y5) := (bxI (fun c205 => (bx_X3_add hI)) (fun c205 => hI))
theorem bx_g_X7_command_154 {σ : PS} {k0 : Int32} (hI : Bx σ) : Bx (g_X7_command_154 σ k0) := (bx_g_X7_command_203 hI)
theorem bx_g_X7_command_149 {σ : PS} (hI : Bx σ) : Bx (g_X7_command_149 σ) := (bx_g_X7_command_154 hI)
theorem bx_g_X7_command_22 {σ : PS} {k0 : Int64} (hI : Bx σ) : Bx (g_X7_command_22 σ k0) := (bxI (fun c47_9825 => (bxI (fun c139 => (bxI (fun c146 => (bx_g_X7_command_154 (bx_X7_cursorCommand (bx_X7_marginCommand hI)))) (fun c146 => (bx_g_X7_command_149 (bx_X7_cursorCommand (bx_X7_marginCommand hI)))))) (fun c139 => (bx_g_X7_command_149 (bx_X7_marginCommand hI))))) (fun c47_9825 => (bxI (fun c47_9830 => (bx_g_X7_command_203 (bx_X7_stackCommand hI))) (fun c47_9830 => (bxI (fun c47_9835 => (bx_g_X7_command_203 (bx_X7_spacingCommand hI))) (fun c47_9835 => (bxI (fun c47_9836 => (bx_g_X7_command_203 (bx_X7_pageCommand hI))) (fun c47_9836 => (bxI (fun c47_9840 => (bx_g_X7_command_203 hI)) (fun c47_9840 => (bxI (fun c47_9843 => (bx_g_X7_command_203 (bx_X7_wrapCommand hI))) (fun c47_9843 => (bxI (fun c47_10864 => (bx_g_X7_command_203 (bx_X7_dotCommand hI))) (fun c47_10864 => (bx_g_X7_command_203 hI)))))))))))))))
theorem bx_X7_command {σ0 : PS} (hI : Bx σ0) : Bx (f_X7_command σ0) := (bxI (fun c7 => (bx_g_X7_command_22 hI)) (fun c7 => (bx_g_X7_command_22 hI)))
abbrev rm_X7_command : Room := { frames := 5, cells := 0, slots := 0, locals := 111 }
set_option maxHeartbeats 4000000 in
set_option maxRecDepth 100000 in
theorem c_X7_command (l : Launch) (D : va_G) (a : Nat → Nat) (cA : Nat → ClassId) (σ0 : PS) (hI : Bx σ0) : CV l yX7_command cX7_command 6 rm_X7_command D (pdT cA) [.ref (a 0)] (pdW a cA σ0) (pdW a cA (f_X7_command σ0)) := by
  refine en_v (by decide +kernel) (Nat.le_of_ble_eq_true rfl) ?_
  intro p e s m args below meth c A ls Q K hw hl ret
  have hl : lv_has ls 6 [(0, .ref (a 0))] := hl
  have J203 : ∀ (σ : PS) (y5 : Int32) (H : Heap) (locs : List Loc) (ls : Array Slot), WD D A s.heap (pdW a cA σ) H locs → lv_has ls 6 [(0, .ref (a 0)), (5, .int y5)] → Bx σ → f_X7_command σ0 = g_X7_command_203 σ y5 → W p l e rm_X7_command s m args below meth c H locs 0 0 Q (F0 m 203 ls []) := by
    intro σ y5 H locs ls hw hl hI e0
    refine lv_iload K.1 K.2.1 dX7_command_203 (lv_at hl 1 rfl) ?_
    refine lv_if_ne (tgt := 219) K.1 K.2.1 dX7_command_205 (by decide) (fun c205 => ?_) (fun c205 => ?_)
    · exact ret (congrArg (pdW a cA) (by exact (Eq.trans e0 (Eq.trans (if_neg c205) rfl)))) hw dX7_command_219
    · refine lv_aload_n K.1 K.2.1 dX7_command_208 rfl (lv_at hl 0 rfl) ?_
      refine gD_0_7 K hw kf_X7_55 dX7_command_209 ?_
      refine lv_aload_n K.1 K.2.1 dX7_command_212 rfl (lv_at hl 0 rfl) ?_
      refine gD_0_0 K hw kf_X7_10 dX7_command_213 ?_
      refine caV K hw (c_X3_add l D a cA _ hI) hl.1 (tt_V km_X7_303 kI_X3_add ks_X3_add ki_X3 kC_X3_add) 6 (ci := 3) rfl rfl rfl (na := 1) rfl (by decide +kernel) ⟨rfl, rfl⟩ (by decide) ⟨Nat.zero_le _, Nat.zero_le _⟩ rfl (Nat.le_of_ble_eq_true rfl) dX7_command_216 (fun H locs hw => ?_)
      obtain ⟨s216, es216, hw⟩ := nmD hw
      have hI216 : Bx s216 := by rw [es216]; exact bx_X3_add hI
      exact ret (congrArg (pdW a cA) (by subst es216; exact (Eq.trans e0 (Eq.trans (if_pos c205) rfl)))) hw dX7_command_219
  have J154 : ∀ (σ : PS) (k0 : Int32) (H : Heap) (locs : List Loc) (ls : Array Slot), WD D A s.heap (pdW a cA σ) H locs → lv_has ls 6 [(0, .ref (a 0))] → Bx σ → f_X7_command σ0 = g_X7_command_154 σ k0 → W p l e rm_X7_command s m args below meth c H locs 0 0 Q (F0 m 154 ls [.int k0]) := by
    intro σ k0 H locs ls hw hl hI e0
    refine lv_istore (lv' := [(5, .int k0), (0, .ref (a 0))]) K.1 K.2.1 dX7_command_154 hl (by decide) rfl (fun ls hl => ?_)
    refine lv_goto (tgt := 203) K.1 K.2.1 dX7_command_156 (by decide) ?_
    exact J203 _ _ _ _ _ hw (lv_sub hl [1, 0] rfl) hI (by exact (Eq.trans e0 rfl))
  have J149 : ∀ (σ : PS) (H : Heap) (locs : List Loc) (ls : Array Slot), WD D A s.heap (pdW a cA σ) H locs → lv_has ls 6 [(0, .ref (a 0))] → Bx σ → f_X7_command σ0 = g_X7_command_149 σ → W p l e rm_X7_command s m args below meth c H locs 0 0 Q (F0 m 149 ls []) := by
    intro σ H locs ls hw hl hI e0
    refine lv_iconst (v := 1) K.1 K.2.1 dX7_command_149 (by decide) ?_
    refine lv_goto (tgt := 154) K.1 K.2.1 dX7_command_150 (by decide) ?_
    exact J154 _ _ _ _ _ hw (lv_sub hl [0] rfl) hI (by exact (Eq.trans e0 rfl))
  have J22 : ∀ (σ : PS) (k0 : Int64) (H : Heap) (locs : List Loc) (ls : Array Slot), WD D A s.heap (pdW a cA σ) H locs → lv_has ls 6 [(0, .ref (a 0))] → Bx σ → f_X7_command σ0 = g_X7_command_22 σ k0 → W p l e rm_X7_command s m args below meth c H locs 0 0 Q (F0 m 22 ls [.long k0]) := by
    intro σ k0 H locs ls hw hl hI e0
    refine lv_lstore_n (lv' := [(1, .long k0), (0, .ref (a 0))]) K.1 K.2.1 dX7_command_22 rfl hl (by decide) rfl (fun ls hl => ?_)
    refine lv_lload_n K.1 K.2.1 dX7_command_23 rfl (lv_at hl 0 rfl) ?_
    refine lv_ldc2 K.1 K.2.1 K.2.2.2.1 (K.2.2.1 _ kc_X7_269) dX7_command_24 ?_
    refine lv_ldiv K.1 K.2.1 dX7_command_27 (by decide) ?_
    refine lv_topl (fun x3_28 ex3_28 => ?_)
    refine lv_lstore_n (lv' := [(3, .long x3_28), (1, .long k0), (0, .ref (a 0))]) K.1 K.2.1 dX7_command_28 rfl hl (by decide) rfl (fun ls hl => ?_)
    refine lv_aload_n K.1 K.2.1 dX7_command_29 rfl (lv_at hl 2 rfl) ?_
    refine gD_0_0 K hw kf_X7_10 dX7_command_30 ?_
    refine gD_1_0 K hw kf_X7_271 dX7_command_33 ?_
    refine lv_bipush (v := 8) K.1 K.2.1 dX7_command_36 (by decide) ?_
    refine lv_ishl K.1 K.2.1 dX7_command_38 ?_
    refine lv_aload_n K.1 K.2.1 dX7_command_39 rfl (lv_at hl 2 rfl) ?_
    refine gD_0_0 K hw kf_X7_10 dX7_command_40 ?_
    refine gD_1_1 K hw kf_X7_274 dX7_command_43 ?_
    refine lv_ior K.1 K.2.1 dX7_command_46 ?_
    refine sw_l K dX7_command_47 (k := 9825) (tgt := 134) (by decide) (by decide) (fun c47_9825 => ?_) (fun c47_9825 => ?_)
    · refine lv_aload_n K.1 K.2.1 dX7_command_134 rfl (lv_at hl 2 rfl) ?_
      refine lv_lload_n K.1 K.2.1 dX7_command_135 rfl (lv_at hl 0 rfl) ?_
      refine caI K hw (c_X7_marginCommand l D a cA _ _) hl.1 (tt_V km_X7_284 kI_X7_marginCommand ks_X7_marginCommand ki_X7 kC_X7_marginCommand) 0 (ci := 7) rfl rfl rfl (na := 1) rfl (by decide +kernel) ⟨rfl, rfl⟩ (by decide) ⟨Nat.zero_le _, Nat.zero_le _⟩ rfl (Nat.le_of_ble_eq_true rfl) dX7_command_136 (fun H locs hw => ?_)
      obtain ⟨s136, es136, hw⟩ := nmD hw
      have hI136 : Bx s136 := by rw [es136]; exact bx_X7_marginCommand hI
      refine lv_if_ne (tgt := 149) K.1 K.2.1 dX7_command_139 (by decide) (fun c139 => ?_) (fun c139 => ?_)
      · exact J149 _ _ _ _ hw (lv_sub hl [2] rfl) hI136 (by subst es136 ex3_28; exact (Eq.trans e0 (Eq.trans (if_pos c47_9825) (Eq.trans (if_neg c139) rfl))))
      · refine lv_aload_n K.1 K.2.1 dX7_command_142 rfl (lv_at hl 2 rfl) ?_
        refine caI K hw (c_X7_cursorCommand l D a cA _) hl.1 (tt_V km_X7_288 kI_X7_cursorCommand ks_X7_cursorCommand ki_X7 kC_X7_cursorCommand) 0 (ci := 7) rfl rfl rfl (na := 0) rfl (by decide +kernel) ⟨rfl, rfl⟩ (by decide) ⟨Nat.zero_le _, Nat.zero_le _⟩ rfl (Nat.le_of_ble_eq_true rfl) dX7_command_143 (fun H locs hw => ?_)
        obtain ⟨s143, es143, hw⟩ := nmD hw
        have hI143 : Bx s143 := by rw [es143]; exact bx_X7_cursorCommand hI136
        refine lv_if_eq (tgt := 153) K.1 K.2.1 dX7_command_146 (by decide) (fun c146 => ?_) (fun c146 => ?_)
        · refine lv_iconst (v := 0) K.1 K.2.1 dX7_command_153 (by decide) ?_
          exact J154 _ _ _ _ _ hw (lv_sub hl [2] rfl) hI143 (by subst es143 es136 ex3_28; exact (Eq.trans e0 (Eq.trans (if_pos c47_9825) (Eq.trans (if_pos c139) (Eq.trans (if_pos c146) rfl)))))
        · exact J149 _ _ _ _ hw (lv_sub hl [2] rfl) hI143 (by subst es143 es136 ex3_28; exact (Eq.trans e0 (Eq.trans (if_pos c47_9825) (Eq.trans (if_pos c139) (Eq.trans (if_neg c146) rfl)))))
    · refine sw_l K dX7_command_47 (k := 9830) (tgt := 169) (by decide) (by decide) (fun c47_9830 => ?_) (fun c47_9830 => ?_)
      · refine lv_aload_n K.1 K.2.1 dX7_command_169 rfl (lv_at hl 2 rfl) ?_
        refine lv_lload_n K.1 K.2.1 dX7_command_170 rfl (lv_at hl 0 rfl) ?_
        refine caI K hw (c_X7_stackCommand l D a cA _ _ hI) hl.1 (tt_V km_X7_294 kI_X7_stackCommand ks_X7_stackCommand ki_X7 kC_X7_stackCommand) 0 (ci := 7) rfl rfl rfl (na := 1) rfl (by decide +kernel) ⟨rfl, rfl⟩ (by decide) ⟨Nat.zero_le _, Nat.zero_le _⟩ rfl (Nat.le_of_ble_eq_true rfl) dX7_command_171 (fun H locs hw => ?_)
        obtain ⟨s171, es171, hw⟩ := nmD hw
        have hI171 : Bx s171 := by rw [es171]; exact bx_X7_stackCommand hI
        refine lv_topi (fun x5_174 ex5_174 => ?_)
        refine lv_istore (lv' := [(5, .int x5_174), (3, .long x3_28), (1, .long k0), (0, .ref (a 0))]) K.1 K.2.1 dX7_command_174 hl (by decide) rfl (fun ls hl => ?_)
        refine lv_goto (tgt := 203) K.1 K.2.1 dX7_command_176 (by decide) ?_
        exact J203 _ _ _ _ _ hw (lv_sub hl [3, 0] rfl) hI171 (by subst ex5_174 es171 ex3_28; exact (Eq.trans e0 (Eq.trans (if_neg c47_9825) (Eq.trans (if_pos c47_9830) rfl))))
      · refine sw_l K dX7_command_47 (k := 9835) (tgt := 123) (by decide) (by decide) (fun c47_9835 => ?_) (fun c47_9835 => ?_)
        · refine lv_aload_n K.1 K.2.1 dX7_command_123 rfl (lv_at hl 2 rfl) ?_
          refine lv_lload_n K.1 K.2.1 dX7_command_124 rfl (lv_at hl 1 rfl) ?_
          refine lv_lload_n K.1 K.2.1 dX7_command_125 rfl (lv_at hl 0 rfl) ?_
          refine caI K hw (c_X7_spacingCommand l D a cA _ _ _) hl.1 (tt_V km_X7_281 kI_X7_spacingCommand ks_X7_spacingCommand ki_X7 kC_X7_spacingCommand) 0 (ci := 7) rfl rfl rfl (na := 2) rfl (by decide +kernel) ⟨rfl, rfl⟩ (by decide) ⟨Nat.zero_le _, Nat.zero_le _⟩ rfl (Nat.le_of_ble_eq_true rfl) dX7_command_126 (fun H locs hw => ?_)
          obtain ⟨s126, es126, hw⟩ := nmD hw
          have hI126 : Bx s126 := by rw [es126]; exact bx_X7_spacingCommand hI
          refine lv_topi (fun x5_129 ex5_129 => ?_)
          refine lv_istore (lv' := [(5, .int x5_129), (3, .long x3_28), (1, .long k0), (0, .ref (a 0))]) K.1 K.2.1 dX7_command_129 hl (by decide) rfl (fun ls hl => ?_)
          refine lv_goto (tgt := 203) K.1 K.2.1 dX7_command_131 (by decide) ?_
          exact J203 _ _ _ _ _ hw (lv_sub hl [3, 0] rfl) hI126 (by subst ex5_129 es126 ex3_28; exact (Eq.trans e0 (Eq.trans (if_neg c47_9825) (Eq.trans (if_neg c47_9830) (Eq.trans (if_pos c47_9835) rfl)))))
        · refine sw_l K dX7_command_47 (k := 9836) (tgt := 112) (by decide) (by decide) (fun c47_9836 => ?_) (fun c47_9836 => ?_)
          · refine lv_aload_n K.1 K.2.1 dX7_command_112 rfl (lv_at hl 2 rfl) ?_
            refine lv_lload_n K.1 K.2.1 dX7_command_113 rfl (lv_at hl 1 rfl) ?_
            refine lv_lload_n K.1 K.2.1 dX7_command_114 rfl (lv_at hl 0 rfl) ?_
            refine caI K hw (c_X7_pageCommand l D a cA _ _ _) hl.1 (tt_V km_X7_277 kI_X7_pageCommand ks_X7_pageCommand ki_X7 kC_X7_pageCommand) 0 (ci := 7) rfl rfl rfl (na := 2) rfl (by decide +kernel) ⟨rfl, rfl⟩ (by decide) ⟨Nat.zero_le _, Nat.zero_le _⟩ rfl (Nat.le_of_ble_eq_true rfl) dX7_command_115 (fun H locs hw => ?_)
            obtain ⟨s115, es115, hw⟩ := nmD hw
            have hI115 : Bx s115 := by rw [es115]; exact bx_X7_pageCommand hI
            refine lv_topi (fun x5_118 ex5_118 => ?_)
            refine lv_istore (lv' := [(5, .int x5_118), (3, .long x3_28), (1, .long k0), (0, .ref (a 0))]) K.1 K.2.1 dX7_command_118 hl (by decide) rfl (fun ls hl => ?_)
            refine lv_goto (tgt := 203) K.1 K.2.1 dX7_command_120 (by decide) ?_
            exact J203 _ _ _ _ _ hw (lv_sub hl [3, 0] rfl) hI115 (by subst ex5_118 es115 ex3_28; exact (Eq.trans e0 (Eq.trans (if_neg c47_9825) (Eq.trans (if_neg c47_9830) (Eq.trans (if_neg c47_9835) (Eq.trans (if_pos c47_9836) rfl))))))
          · refine sw_l K dX7_command_47 (k := 9840) (tgt := 179) (by decide) (by decide) (fun c47_9840 => ?_) (fun c47_9840 => ?_)
            · refine lv_aload_n K.1 K.2.1 dX7_command_179 rfl (lv_at hl 2 rfl) ?_
              refine gD_0_0 K hw kf_X7_10 dX7_command_180 ?_
              refine caI K hw (c_X5_hasText l D a cA _) hl.1 (tt_V km_X7_297 kI_X5_hasText ks_X5_hasText ki_X5 kC_X5_hasText) 1 (ci := 5) rfl rfl rfl (na := 0) rfl (by decide +kernel) ⟨rfl, rfl⟩ (by decide) ⟨Nat.zero_le _, Nat.zero_le _⟩ rfl (Nat.le_of_ble_eq_true rfl) dX7_command_183 (fun H locs hw => ?_)
              refine lv_topi (fun x5_186 ex5_186 => ?_)
              refine lv_istore (lv' := [(5, .int x5_186), (3, .long x3_28), (1, .long k0), (0, .ref (a 0))]) K.1 K.2.1 dX7_command_186 hl (by decide) rfl (fun ls hl => ?_)
              refine lv_goto (tgt := 203) K.1 K.2.1 dX7_command_188 (by decide) ?_
              exact J203 _ _ _ _ _ hw (lv_sub hl [3, 0] rfl) hI (by subst ex5_186 ex3_28; exact (Eq.trans e0 (Eq.trans (if_neg c47_9825) (Eq.trans (if_neg c47_9830) (Eq.trans (if_neg c47_9835) (Eq.trans (if_neg c47_9836) (Eq.trans (if_pos c47_9840) rfl)))))))
            · refine sw_l K dX7_command_47 (k := 9843) (tgt := 159) (by decide) (by decide) (fun c47_9843 => ?_) (fun c47_9843 => ?_)
              · refine lv_aload_n K.1 K.2.1 dX7_command_159 rfl (lv_at hl 2 rfl) ?_
                refine lv_lload_n K.1 K.2.1 dX7_command_160 rfl (lv_at hl 0 rfl) ?_
                refine caI K hw (c_X7_wrapCommand l D a cA _ _) hl.1 (tt_V km_X7_291 kI_X7_wrapCommand ks_X7_wrapCommand ki_X7 kC_X7_wrapCommand) 0 (ci := 7) rfl rfl rfl (na := 1) rfl (by decide +kernel) ⟨rfl, rfl⟩ (by decide) ⟨Nat.zero_le _, Nat.zero_le _⟩ rfl (Nat.le_of_ble_eq_true rfl) dX7_command_161 (fun H locs hw => ?_)
                obtain ⟨s161, es161, hw⟩ := nmD hw
                have hI161 : Bx s161 := by rw [es161]; exact bx_X7_wrapCommand hI
                refine lv_topi (fun x5_164 ex5_164 => ?_)
                refine lv_istore (lv' := [(5, .int x5_164), (3, .long x3_28), (1, .long k0), (0, .ref (a 0))]) K.1 K.2.1 dX7_command_164 hl (by decide) rfl (fun ls hl => ?_)
                refine lv_goto (tgt := 203) K.1 K.2.1 dX7_command_166 (by decide) ?_
                exact J203 _ _ _ _ _ hw (lv_sub hl [3, 0] rfl) hI161 (by subst ex5_164 es161 ex3_28; exact (Eq.trans e0 (Eq.trans (if_neg c47_9825) (Eq.trans (if_neg c47_9830) (Eq.trans (if_neg c47_9835) (Eq.trans (if_neg c47_9836) (Eq.trans (if_neg c47_9840) (Eq.trans (if_pos c47_9843) rfl))))))))
              · refine sw_l K dX7_command_47 (k := 10864) (tgt := 191) (by decide) (by decide) (fun c47_10864 => ?_) (fun c47_10864 => ?_)
                · refine lv_aload_n K.1 K.2.1 dX7_command_191 rfl (lv_at hl 2 rfl) ?_
                  refine caI K hw (c_X7_dotCommand l D a cA _) hl.1 (tt_V km_X7_300 kI_X7_dotCommand ks_X7_dotCommand ki_X7 kC_X7_dotCommand) 0 (ci := 7) rfl rfl rfl (na := 0) rfl (by decide +kernel) ⟨rfl, rfl⟩ (by decide) ⟨Nat.zero_le _, Nat.zero_le _⟩ rfl (Nat.le_of_ble_eq_true rfl) dX7_command_192 (fun H locs hw => ?_)
                  obtain ⟨s192, es192, hw⟩ := nmD hw
                  have hI192 : Bx s192 := by rw [es192]; exact bx_X7_dotCommand hI
                  refine lv_topi (fun x5_195 ex5_195 => ?_)
                  refine lv_istore (lv' := [(5, .int x5_195), (3, .long x3_28), (1, .long k0), (0, .ref (a 0))]) K.1 K.2.1 dX7_command_195 hl (by decide) rfl (fun ls hl => ?_)
                  refine lv_goto (tgt := 203) K.1 K.2.1 dX7_command_197 (by decide) ?_
                  exact J203 _ _ _ _ _ hw (lv_sub hl [3, 0] rfl) hI192 (by subst ex5_195 es192 ex3_28; exact (Eq.trans e0 (Eq.trans (if_neg c47_9825) (Eq.trans (if_neg c47_9830) (Eq.trans (if_neg c47_9835) (Eq.trans (if_neg c47_9836) (Eq.trans (if_neg c47_9840) (Eq.trans (if_neg c47_9843) (Eq.trans (if_pos c47_10864) rfl)))))))))
                · refine lv_lookup (tgt := 200) (off := 153) K.1 K.2.1 dX7_command_47 (by decide) (by show Op.lookupswitch.offset [(9825, 87), (9830, 122), (9835, 76), (9836, 65), (9840, 132), (9843, 112), (10864, 144)] 153 _ = 153; rw [lv_osw c47_9825 (a := 9825) rfl, lv_osw c47_9830 (a := 9830) rfl, lv_osw c47_9835 (a := 9835) rfl, lv_osw c47_9836 (a := 9836) rfl, lv_osw c47_9840 (a := 9840) rfl, lv_osw c47_9843 (a := 9843) rfl, lv_osw c47_10864 (a := 10864) rfl]; rfl) (by decide) ?_
                  refine lv_iconst (v := 0) K.1 K.2.1 dX7_command_200 (by decide) ?_
                  refine lv_istore (lv' := [(5, .int 0), (3, .long x3_28), (1, .long k0), (0, .ref (a 0))]) K.1 K.2.1 dX7_command_201 hl (by decide) rfl (fun ls hl => ?_)
                  exact J203 _ _ _ _ _ hw (lv_sub hl [3, 0] rfl) hI (by subst ex3_28; exact (Eq.trans e0 (Eq.trans (if_neg c47_9825) (Eq.trans (if_neg c47_9830) (Eq.trans (if_neg c47_9835) (Eq.trans (if_neg c47_9836) (Eq.trans (if_neg c47_9840) (Eq.trans (if_neg c47_9843) (Eq.trans (if_neg c47_10864) rfl)))))))))
  refine lv_aload_n K.1 K.2.1 dX7_command_0 rfl (lv_at hl 0 rfl) ?_
  refine gD_0_0 K hw kf_X7_10 dX7_command_1 ?_
  refine gD_1_2 K hw kf_X7_266 dX7_command_4 ?_
  refine lv_if_ge (tgt := 14) K.1 K.2.1 dX7_command_7 (by decide) (fun c7 => ?_) (fun c7 => ?_)
  · refine lv_aload_n K.1 K.2.1 dX7_command_14 rfl (lv_at hl 0 rfl) ?_
    refine gD_0_0 K hw kf_X7_10 dX7_command_15 ?_
    refine gD_1_2 K hw kf_X7_266 dX7_command_18 ?_
    refine lv_i2l K.1 K.2.1 dX7_command_21 rfl ?_
    exact J22 _ _ _ _ _ hw (lv_sub hl [0] rfl) hI (by exact (Eq.trans (if_pos c7) rfl))
  · refine lv_lconst (v := 0) K.1 K.2.1 dX7_command_10 (by decide) ?_
    refine lv_goto (tgt := 22) K.1 K.2.1 dX7_command_11 (by decide) ?_
    exact J22 _ _ _ _ _ hw (lv_sub hl [0] rfl) hI (by exact (Eq.trans (if_neg c7) rfl))
def f_X7_byteComes (σ0 : PS) (x1 : Int32) : PS := let s15 : PS := (f_X5_accept (upS σ0 40 ((σ0.1 40) + 1)) x1).1; (if (f_X5_accept (upS σ0 40 ((σ0.1 40) + 1)) x1).2 = 1 then let s54 : PS := f_X7_character s15 x1; s54 else (if (f_X5_accept (upS σ0 40 ((σ0.1 40) + 1)) x1).2 = 2 then let s62 : PS := f_X7_controlCode s15 x1; s62 else (if (f_X5_accept (upS σ0 40 ((σ0.1 40) + 1)) x1).2 = 3 then let s70 : PS := f_X7_shortSequence s15 x1; s70 else (if (f_X5_accept (upS σ0 40 ((σ0.1 40) + 1)) x1).2 = 4 then let s77 : PS := f_X7_command s15; s77 else (if (f_X5_accept (upS σ0 40 ((σ0.1 40) + 1)) x1).2 = 5 then let s88 : PS := f_X3_addByte s15 x1; s88 else s15)))))
theorem bx_X7_byteComes {σ0 : PS} {x1 : Int32} (hI : Bx σ0) : Bx (f_X7_byteComes σ0 x1) := (bxI (fun c18_1 => (bx_X7_character (bx_X5_accept (bxS_40 hI)))) (fun c18_1 => (bxI (fun c18_2 => (bx_X7_controlCode (bx_X5_accept (bxS_40 hI)))) (fun c18_2 => (bxI (fun c18_3 => (bx_X7_shortSequence (bx_X5_accept (bxS_40 hI)))) (fun c18_3 => (bxI (fun c18_4 => (bx_X7_command (bx_X5_accept (bxS_40 hI)))) (fun c18_4 => (bxI (fun c18_5 => (bx_X3_addByte (bx_X5_accept (bxS_40 hI)))) (fun c18_5 => (bx_X5_accept (bxS_40 hI))))))))))))
abbrev rm_X7_byteComes : Room := { frames := 6, cells := 0, slots := 0, locals := 136 }
set_option maxHeartbeats 4000000 in
set_option maxRecDepth 100000 in
theorem c_X7_byteComes (l : Launch) (D : va_G) (a : Nat → Nat) (cA : Nat → ClassId) (σ0 : PS) (x1 : Int32) (hI : Bx σ0) (hb : 0 ≤ x1.toInt ∧ x1.toInt ≤ 255) : CV l yX7_byteComes cX7_byteComes 2 rm_X7_byteComes D (pdT cA) [.ref (a 0), .int x1] (pdW a cA σ0) (pdW a cA (f_X7_byteComes σ0 x1)) := by
  refine en_v (by decide +kernel) (Nat.le_of_ble_eq_true rfl) ?_
  intro p e s m args below meth c A ls Q K hw hl ret
  have hl : lv_has ls 2 [(0, .ref (a 0)), (1, .int x1)] := hl
  refine lv_aload_n K.1 K.2.1 dX7_byteComes_0 rfl (lv_at hl 0 rfl) ?_
  refine lv_dup K.1 K.2.1 dX7_byteComes_1 rfl ?_
  refine gD_0_9 K hw kf_X7_191 dX7_byteComes_2 ?_
  refine lv_iconst (v := 1) K.1 K.2.1 dX7_byteComes_5 (by decide) ?_
  refine lv_iadd K.1 K.2.1 dX7_byteComes_6 ?_
  refine pD_0_9 K hw kf_X7_191 dX7_byteComes_7 (fun H locs hw => ?_)
  refine lv_aload_n K.1 K.2.1 dX7_byteComes_10 rfl (lv_at hl 0 rfl) ?_
  refine gD_0_0 K hw kf_X7_10 dX7_byteComes_11 ?_
  refine lv_iload_n K.1 K.2.1 dX7_byteComes_14 rfl (lv_at hl 1 rfl) ?_
  refine caI K hw (c_X5_accept l D a cA _ _) hl.1 (tt_V km_X7_200 kI_X5_accept ks_X5_accept ki_X5 kC_X5_accept) 1 (ci := 5) rfl rfl rfl (na := 1) rfl (by decide +kernel) ⟨rfl, rfl⟩ (by decide) ⟨Nat.zero_le _, Nat.zero_le _⟩ rfl (Nat.le_of_ble_eq_true rfl) dX7_byteComes_15 (fun H locs hw => ?_)
  obtain ⟨s15, es15, hw⟩ := nmD hw
  have hI15 : Bx s15 := by rw [es15]; exact bx_X5_accept (bxS_40 hI)
  refine sw_t K dX7_byteComes_18 (k := 1) (tgt := 52) (by decide) (by decide) (fun c18_1 => ?_) (fun c18_1 => ?_)
  · refine lv_aload_n K.1 K.2.1 dX7_byteComes_52 rfl (lv_at hl 0 rfl) ?_
    refine lv_iload_n K.1 K.2.1 dX7_byteComes_53 rfl (lv_at hl 1 rfl) ?_
    refine caV K hw (c_X7_character l D a cA _ _ hI15 hb) hl.1 (tt_V km_X7_203 kI_X7_character ks_X7_character ki_X7 kC_X7_character) 0 (ci := 7) rfl rfl rfl (na := 1) rfl (by decide +kernel) ⟨rfl, rfl⟩ (by decide) ⟨Nat.zero_le _, Nat.zero_le _⟩ rfl (Nat.le_of_ble_eq_true rfl) dX7_byteComes_54 (fun H locs hw => ?_)
    obtain ⟨s54, es54, hw⟩ := nmD hw
    have hI54 : Bx s54 := by rw [es54]; exact bx_X7_character hI15
    refine lv_goto (tgt := 94) K.1 K.2.1 dX7_byteComes_57 (by decide) ?_
    exact ret (congrArg (pdW a cA) (by subst es54 es15; exact (Eq.trans (if_pos c18_1) rfl))) hw dX7_byteComes_94
  · refine sw_t K dX7_byteComes_18 (k := 2) (tgt := 60) (by decide) (by decide) (fun c18_2 => ?_) (fun c18_2 => ?_)
    · refine lv_aload_n K.1 K.2.1 dX7_byteComes_60 rfl (lv_at hl 0 rfl) ?_
      refine lv_iload_n K.1 K.2.1 dX7_byteComes_61 rfl (lv_at hl 1 rfl) ?_
      refine caV K hw (c_X7_controlCode l D a cA _ _) hl.1 (tt_V km_X7_206 kI_X7_controlCode ks_X7_controlCode ki_X7 kC_X7_controlCode) 0 (ci := 7) rfl rfl rfl (na := 1) rfl (by decide +kernel) ⟨rfl, rfl⟩ (by decide) ⟨Nat.zero_le _, Nat.zero_le _⟩ rfl (Nat.le_of_ble_eq_true rfl) dX7_byteComes_62 (fun H locs hw => ?_)
      obtain ⟨s62, es62, hw⟩ := nmD hw
      have hI62 : Bx s62 := by rw [es62]; exact bx_X7_controlCode hI15
      refine lv_goto (tgt := 94) K.1 K.2.1 dX7_byteComes_65 (by decide) ?_
      exact ret (congrArg (pdW a cA) (by subst es62 es15; exact (Eq.trans (if_neg c18_1) (Eq.trans (if_pos c18_2) rfl)))) hw dX7_byteComes_94
    · refine sw_t K dX7_byteComes_18 (k := 3) (tgt := 68) (by decide) (by decide) (fun c18_3 => ?_) (fun c18_3 => ?_)
      · refine lv_aload_n K.1 K.2.1 dX7_byteComes_68 rfl (lv_at hl 0 rfl) ?_
        refine lv_iload_n K.1 K.2.1 dX7_byteComes_69 rfl (lv_at hl 1 rfl) ?_
        refine caV K hw (c_X7_shortSequence l D a cA _ _) hl.1 (tt_V km_X7_209 kI_X7_shortSequence ks_X7_shortSequence ki_X7 kC_X7_shortSequence) 0 (ci := 7) rfl rfl rfl (na := 1) rfl (by decide +kernel) ⟨rfl, rfl⟩ (by decide) ⟨Nat.zero_le _, Nat.zero_le _⟩ rfl (Nat.le_of_ble_eq_true rfl) dX7_byteComes_70 (fun H locs hw => ?_)
        obtain ⟨s70, es70, hw⟩ := nmD hw
        have hI70 : Bx s70 := by rw [es70]; exact bx_X7_shortSequence hI15
        refine lv_goto (tgt := 94) K.1 K.2.1 dX7_byteComes_73 (by decide) ?_
        exact ret (congrArg (pdW a cA) (by subst es70 es15; exact (Eq.trans (if_neg c18_1) (Eq.trans (if_neg c18_2) (Eq.trans (if_pos c18_3) rfl))))) hw dX7_byteComes_94
      · refine sw_t K dX7_byteComes_18 (k := 4) (tgt := 76) (by decide) (by decide) (fun c18_4 => ?_) (fun c18_4 => ?_)
        · refine lv_aload_n K.1 K.2.1 dX7_byteComes_76 rfl (lv_at hl 0 rfl) ?_
          refine caV K hw (c_X7_command l D a cA _ hI15) hl.1 (tt_V km_X7_212 kI_X7_command ks_X7_command ki_X7 kC_X7_command) 0 (ci := 7) rfl rfl rfl (na := 0) rfl (by decide +kernel) ⟨rfl, rfl⟩ (by decide) ⟨Nat.zero_le _, Nat.zero_le _⟩ rfl (Nat.le_of_ble_eq_true rfl) dX7_byteComes_77 (fun H locs hw => ?_)
          obtain ⟨s77, es77, hw⟩ := nmD hw
          have hI77 : Bx s77 := by rw [es77]; exact bx_X7_command hI15
          refine lv_goto (tgt := 94) K.1 K.2.1 dX7_byteComes_80 (by decide) ?_
          exact ret (congrArg (pdW a cA) (by subst es77 es15; exact (Eq.trans (if_neg c18_1) (Eq.trans (if_neg c18_2) (Eq.trans (if_neg c18_3) (Eq.trans (if_pos c18_4) rfl)))))) hw dX7_byteComes_94
        · refine sw_t K dX7_byteComes_18 (k := 5) (tgt := 83) (by decide) (by decide) (fun c18_5 => ?_) (fun c18_5 => ?_)
          · refine lv_aload_n K.1 K.2.1 dX7_byteComes_83 rfl (lv_at hl 0 rfl) ?_
            refine gD_0_7 K hw kf_X7_55 dX7_byteComes_84 ?_
            refine lv_iload_n K.1 K.2.1 dX7_byteComes_87 rfl (lv_at hl 1 rfl) ?_
            refine caV K hw (c_X3_addByte l D a cA _ _ hI15) hl.1 (tt_V km_X7_215 kI_X3_addByte ks_X3_addByte ki_X3 kC_X3_addByte) 6 (ci := 3) rfl rfl rfl (na := 1) rfl (by decide +kernel) ⟨rfl, rfl⟩ (by decide) ⟨Nat.zero_le _, Nat.zero_le _⟩ rfl (Nat.le_of_ble_eq_true rfl) dX7_byteComes_88 (fun H locs hw => ?_)
            obtain ⟨s88, es88, hw⟩ := nmD hw
            have hI88 : Bx s88 := by rw [es88]; exact bx_X3_addByte hI15
            refine lv_goto (tgt := 94) K.1 K.2.1 dX7_byteComes_91 (by decide) ?_
            exact ret (congrArg (pdW a cA) (by subst es88 es15; exact (Eq.trans (if_neg c18_1) (Eq.trans (if_neg c18_2) (Eq.trans (if_neg c18_3) (Eq.trans (if_neg c18_4) (Eq.trans (if_pos c18_5) rfl))))))) hw dX7_byteComes_94
          · refine lv_tableOut (tgt := 94) K.1 K.2.1 dX7_byteComes_18 (by have h0 := lv_neT c18_1 (a := 1) rfl; have h1 := lv_neT c18_2 (a := 2) rfl; have h2 := lv_neT c18_3 (a := 3) rfl; have h3 := lv_neT c18_4 (a := 4) rfl; have h4 := lv_neT c18_5 (a := 5) rfl; omega) (by decide) ?_
            exact ret (congrArg (pdW a cA) (by subst es15; exact (Eq.trans (if_neg c18_1) (Eq.trans (if_neg c18_2) (Eq.trans (if_neg c18_3) (Eq.trans (if_neg c18_4) (Eq.trans (if_neg c18_5) rfl))))))) hw dX7_byteComes_94
def f_X7_advance (σ0 : PS) (x1 : Int32) (x2 : Int32) (x3 : Int32) : PS × Int32 := (if x1 < 0 then (σ0, 0) else (if 1 < x1 then (σ0, 0) else (if x2 < 0 then (σ0, 0) else (if 256 ≤ x2 then (σ0, 0) else (if x3 < (-1) then (σ0, 0) else (if x3 ≤ 20000 then ((upA σ0 0 (Int32.toNatClampNeg ((x1 * 256) + x2)) x3), 1) else (σ0, 0)))))))
theorem bx_X7_advance {σ0 : PS} {x1 : Int32} {x2 : Int32} {x3 : Int32} (hI : Bx σ0) : Bx (f_X7_advance σ0 x1 x2 x3).1 := (bxI2 (fun c1 => hI) (fun c1 => (bxI2 (fun c6 => hI) (fun c6 => (bxI2 (fun c10 => hI) (fun c10 => (bxI2 (fun c17 => hI) (fun c17 => (bxI2 (fun c22 => hI) (fun c22 => (bxI2 (fun c29 => (bxA hI)) (fun c29 => hI))))))))))))
abbrev rm_X7_advance : Room := { frames := 0, cells := 0, slots := 0, locals := 0 }
theorem nz_X7_advance {σ0 : PS} {x1 : Int32} {x2 : Int32} {x3 : Int32} : NZ (f_X7_advance σ0 x1 x2 x3).2 := (nzI2 nz0 (nzI2 nz0 (nzI2 nz0 (nzI2 nz0 (nzI2 nz0 (nzI2 nz1 nz0))))))
set_option maxHeartbeats 4000000 in
set_option maxRecDepth 100000 in
theorem c_X7_advance (l : Launch) (D : va_G) (a : Nat → Nat) (cA : Nat → ClassId) (σ0 : PS) (x1 : Int32) (x2 : Int32) (x3 : Int32) : CI l yX7_advance cX7_advance 4 .boolean rm_X7_advance D (pdT cA) [.ref (a 0), .int x1, .int x2, .int x3] (pdW a cA σ0) (pdW a cA (f_X7_advance σ0 x1 x2 x3).1) (f_X7_advance σ0 x1 x2 x3).2 := by
  refine en_i (by decide +kernel) (Nat.le_of_ble_eq_true rfl) nz_X7_advance ?_
  intro p e s m args below meth c A ls Q K hw hl ret
  have hl : lv_has ls 4 [(0, .ref (a 0)), (1, .int x1), (2, .int x2), (3, .int x3)] := hl
  refine lv_iload_n K.1 K.2.1 dX7_advance_0 rfl (lv_at hl 1 rfl) ?_
  refine lv_if_lt (tgt := 32) K.1 K.2.1 dX7_advance_1 (by decide) (fun c1 => ?_) (fun c1 => ?_)
  · refine lv_iconst (v := 0) K.1 K.2.1 dX7_advance_32 (by decide) ?_
    have eq9 : f_X7_advance σ0 x1 x2 x3 = (σ0, 0) := (by exact (Eq.trans (if_pos c1) rfl))
    exact ret (congrArg (fun z => pdW a cA z.1) eq9) (congrArg (fun z => z.2) eq9) hw dX7_advance_33
  · refine lv_iload_n K.1 K.2.1 dX7_advance_4 rfl (lv_at hl 1 rfl) ?_
    refine lv_iconst (v := 1) K.1 K.2.1 dX7_advance_5 (by decide) ?_
    refine lv_icmp_gt (tgt := 32) K.1 K.2.1 dX7_advance_6 (by decide) (fun c6 => ?_) (fun c6 => ?_)
    · refine lv_iconst (v := 0) K.1 K.2.1 dX7_advance_32 (by decide) ?_
      have eq9 : f_X7_advance σ0 x1 x2 x3 = (σ0, 0) := (by exact (Eq.trans (if_neg c1) (Eq.trans (if_pos c6) rfl)))
      exact ret (congrArg (fun z => pdW a cA z.1) eq9) (congrArg (fun z => z.2) eq9) hw dX7_advance_33
    · refine lv_iload_n K.1 K.2.1 dX7_advance_9 rfl (lv_at hl 2 rfl) ?_
      refine lv_if_lt (tgt := 32) K.1 K.2.1 dX7_advance_10 (by decide) (fun c10 => ?_) (fun c10 => ?_)
      · refine lv_iconst (v := 0) K.1 K.2.1 dX7_advance_32 (by decide) ?_
        have eq9 : f_X7_advance σ0 x1 x2 x3 = (σ0, 0) := (by exact (Eq.trans (if_neg c1) (Eq.trans (if_neg c6) (Eq.trans (if_pos c10) rfl))))
        exact ret (congrArg (fun z => pdW a cA z.1) eq9) (congrArg (fun z => z.2) eq9) hw dX7_advance_33
      · refine lv_iload_n K.1 K.2.1 dX7_advance_13 rfl (lv_at hl 2 rfl) ?_
        refine lv_sipush (v := 256) K.1 K.2.1 dX7_advance_14 (by decide) ?_
        refine lv_icmp_ge (tgt := 32) K.1 K.2.1 dX7_advance_17 (by decide) (fun c17 => ?_) (fun c17 => ?_)
        · refine lv_iconst (v := 0) K.1 K.2.1 dX7_advance_32 (by decide) ?_
          have eq9 : f_X7_advance σ0 x1 x2 x3 = (σ0, 0) := (by exact (Eq.trans (if_neg c1) (Eq.trans (if_neg c6) (Eq.trans (if_neg c10) (Eq.trans (if_pos c17) rfl)))))
          exact ret (congrArg (fun z => pdW a cA z.1) eq9) (congrArg (fun z => z.2) eq9) hw dX7_advance_33
        · refine lv_iload_n K.1 K.2.1 dX7_advance_20 rfl (lv_at hl 3 rfl) ?_
          refine lv_iconst (v := (-1)) K.1 K.2.1 dX7_advance_21 (by decide) ?_
          refine lv_icmp_lt (tgt := 32) K.1 K.2.1 dX7_advance_22 (by decide) (fun c22 => ?_) (fun c22 => ?_)
          · refine lv_iconst (v := 0) K.1 K.2.1 dX7_advance_32 (by decide) ?_
            have eq9 : f_X7_advance σ0 x1 x2 x3 = (σ0, 0) := (by exact (Eq.trans (if_neg c1) (Eq.trans (if_neg c6) (Eq.trans (if_neg c10) (Eq.trans (if_neg c17) (Eq.trans (if_pos c22) rfl))))))
            exact ret (congrArg (fun z => pdW a cA z.1) eq9) (congrArg (fun z => z.2) eq9) hw dX7_advance_33
          · refine lv_iload_n K.1 K.2.1 dX7_advance_25 rfl (lv_at hl 3 rfl) ?_
            refine lv_sipush (v := 20000) K.1 K.2.1 dX7_advance_26 (by decide) ?_
            refine lv_icmp_le (tgt := 34) K.1 K.2.1 dX7_advance_29 (by decide) (fun c29 => ?_) (fun c29 => ?_)
            · refine lv_aload_n K.1 K.2.1 dX7_advance_34 rfl (lv_at hl 0 rfl) ?_
              refine gD_0_8 K hw kf_X7_59 dX7_advance_35 ?_
              refine lv_iload_n K.1 K.2.1 dX7_advance_38 rfl (lv_at hl 1 rfl) ?_
              refine lv_sipush (v := 256) K.1 K.2.1 dX7_advance_39 (by decide) ?_
              refine lv_imul K.1 K.2.1 dX7_advance_42 ?_
              refine lv_iload_n K.1 K.2.1 dX7_advance_43 rfl (lv_at hl 2 rfl) ?_
              refine lv_iadd K.1 K.2.1 dX7_advance_44 ?_
              refine lv_iload_n K.1 K.2.1 dX7_advance_45 rfl (lv_at hl 3 rfl) ?_
              refine sD_7 K hw (vTold (rg1 c1 c6 rfl) (rg2 c10 c17 rfl)) rfl dX7_advance_46 (fun H locs hw => ?_)
              refine lv_iconst (v := 1) K.1 K.2.1 dX7_advance_47 (by decide) ?_
              have eq9 : f_X7_advance σ0 x1 x2 x3 = ((upA σ0 0 (Int32.toNatClampNeg ((x1 * 256) + x2)) x3), 1) := (by exact (Eq.trans (if_neg c1) (Eq.trans (if_neg c6) (Eq.trans (if_neg c10) (Eq.trans (if_neg c17) (Eq.trans (if_neg c22) (Eq.trans (if_pos c29) rfl)))))))
              exact ret (congrArg (fun z => pdW a cA z.1) eq9) (congrArg (fun z => z.2) eq9) hw dX7_advance_48
            · refine lv_iconst (v := 0) K.1 K.2.1 dX7_advance_32 (by decide) ?_
              have eq9 : f_X7_advance σ0 x1 x2 x3 = (σ0, 0) := (by exact (Eq.trans (if_neg c1) (Eq.trans (if_neg c6) (Eq.trans (if_neg c10) (Eq.trans (if_neg c17) (Eq.trans (if_neg c22) (Eq.trans (if_neg c29) rfl)))))))
              exact ret (congrArg (fun z => pdW a cA z.1) eq9) (congrArg (fun z => z.2) eq9) hw dX7_advance_33
def f_X7_take (σ0 : PS) : PS × Int32 := let s4 : PS := (f_X3_removeFirst σ0).1; (s4, (f_X3_removeFirst σ0).2)
abbrev rm_X7_take : Room := { frames := 1, cells := 0, slots := 0, locals := 20 }
theorem nz_X7_take {σ0 : PS} : NZ (f_X7_take σ0).2 := nz_X3_removeFirst
set_option maxHeartbeats 4000000 in
set_option maxRecDepth 100000 in
theorem c_X7_take (l : Launch) (D : va_G) (a : Nat → Nat) (cA : Nat → ClassId) (σ0 : PS) (hI : Bx σ0) : CI l yX7_take cX7_take 1 .boolean rm_X7_take D (pdT cA) [.ref (a 0)] (pdW a cA σ0) (pdW a cA (f_X7_take σ0).1) (f_X7_take σ0).2 := by
  refine en_i (by decide +kernel) (Nat.le_of_ble_eq_true rfl) nz_X7_take ?_
  intro p e s m args below meth c A ls Q K hw hl ret
  have hl : lv_has ls 1 [(0, .ref (a 0))] := hl
  refine lv_aload_n K.1 K.2.1 dX7_take_0 rfl (lv_at hl 0 rfl) ?_
  refine gD_0_7 K hw kf_X7_55 dX7_take_1 ?_
  refine caI K hw (c_X3_removeFirst l D a cA _ hI) hl.1 (tt_V km_X7_138 kI_X3_removeFirst ks_X3_removeFirst ki_X3 kC_X3_removeFirst) 6 (ci := 3) rfl rfl rfl (na := 0) rfl (by decide +kernel) ⟨rfl, rfl⟩ (by decide) ⟨Nat.zero_le _, Nat.zero_le _⟩ rfl (Nat.le_of_ble_eq_true rfl) dX7_take_4 (fun H locs hw => ?_)
  obtain ⟨s4, es4, hw⟩ := nmD hw
  have eq9 : f_X7_take σ0 = (s4, (f_X3_removeFirst σ0).2) := (by subst es4; exact rfl)
  exact ret (congrArg (fun z => pdW a cA z.1) eq9) (congrArg (fun z => z.2) eq9) hw dX7_take_7
def f_X7_look (σ0 : PS) (x1 : Int32) : Int32 := (if x1 = 0 then (σ0.1 24) else (if x1 = 1 then (σ0.1 25) else (if x1 = 2 then (σ0.1 20) else (if x1 = 3 then (σ0.1 21) else (if x1 = 4 then (σ0.1 18) else (if x1 = 5 then (σ0.1 19) else (if x1 = 6 then (σ0.1 22) else (if x1 = 7 then (σ0.1 23) else (if x1 = 8 then (σ0.1 16) else (if x1 = 9 then (σ0.1 17) else (if x1 = 10 then (σ0.1 13) else (if x1 = 11 then (σ0.1 14) else (if x1 = 12 then (if (σ0.1 26) = 0 then 0 else 1) else (if x1 = 13 then (if (σ0.1 27) = 0 then 0 else 1) else (if x1 = 14 then (σ0.1 28) else (if x1 = 15 then (σ0.1 15) else (if x1 = 16 then (σ0.1 29) else (if x1 = 17 then (σ0.1 30) else (if x1 = 18 then (σ0.1 31) else (if x1 = 19 then (if (f_X6_isOverrun σ0) = 0 then 0 else 1) else (if x1 = 20 then (σ0.1 34) else (if x1 = 21 then (σ0.1 35) else (if x1 = 22 then (σ0.1 40) else (if x1 = 23 then (if (f_X5_isUnderWay σ0) = 0 then 0 else 1) else (if x1 = 24 then (if (f_X6_isDue σ0) = 0 then 0 else 1) else (-1))))))))))))))))))))))))))
abbrev rm_X7_look : Room := { frames := 1, cells := 0, slots := 0, locals := 20 }
set_option maxHeartbeats 4000000 in
set_option maxRecDepth 100000 in
theorem c_X7_look (l : Launch) (D : va_G) (a : Nat → Nat) (cA : Nat → ClassId) (σ0 : PS) (x1 : Int32) : CI l yX7_look cX7_look 2 .int rm_X7_look D (pdT cA) [.ref (a 0), .int x1] (pdW a cA σ0) (pdW a cA σ0) (f_X7_look σ0 x1) := by
  refine en_i (by decide +kernel) (Nat.le_of_ble_eq_true rfl) rfl ?_
  intro p e s m args below meth c A ls Q K hw hl ret
  have hl : lv_has ls 2 [(0, .ref (a 0)), (1, .int x1)] := hl
  refine lv_iload_n K.1 K.2.1 dX7_look_0 rfl (lv_at hl 1 rfl) ?_
  refine sw_t K dX7_look_1 (k := 0) (tgt := 116) (by decide) (by decide) (fun c1_0 => ?_) (fun c1_0 => ?_)
  · refine lv_aload_n K.1 K.2.1 dX7_look_116 rfl (lv_at hl 0 rfl) ?_
    refine gD_0_2 K hw kf_X7_26 dX7_look_117 ?_
    refine gD_3_6 K hw kf_X7_105 dX7_look_120 ?_
    exact ret rfl (by exact (Eq.trans (if_pos c1_0) rfl)) hw dX7_look_123
  · refine sw_t K dX7_look_1 (k := 1) (tgt := 124) (by decide) (by decide) (fun c1_1 => ?_) (fun c1_1 => ?_)
    · refine lv_aload_n K.1 K.2.1 dX7_look_124 rfl (lv_at hl 0 rfl) ?_
      refine gD_0_2 K hw kf_X7_26 dX7_look_125 ?_
      refine gD_3_7 K hw kf_X7_108 dX7_look_128 ?_
      exact ret rfl (by exact (Eq.trans (if_neg c1_0) (Eq.trans (if_pos c1_1) rfl))) hw dX7_look_131
    · refine sw_t K dX7_look_1 (k := 2) (tgt := 132) (by decide) (by decide) (fun c1_2 => ?_) (fun c1_2 => ?_)
      · refine lv_aload_n K.1 K.2.1 dX7_look_132 rfl (lv_at hl 0 rfl) ?_
        refine gD_0_2 K hw kf_X7_26 dX7_look_133 ?_
        refine gD_3_2 K hw kf_X7_91 dX7_look_136 ?_
        exact ret rfl (by exact (Eq.trans (if_neg c1_0) (Eq.trans (if_neg c1_1) (Eq.trans (if_pos c1_2) rfl)))) hw dX7_look_139
      · refine sw_t K dX7_look_1 (k := 3) (tgt := 140) (by decide) (by decide) (fun c1_3 => ?_) (fun c1_3 => ?_)
        · refine lv_aload_n K.1 K.2.1 dX7_look_140 rfl (lv_at hl 0 rfl) ?_
          refine gD_0_2 K hw kf_X7_26 dX7_look_141 ?_
          refine gD_3_3 K hw kf_X7_102 dX7_look_144 ?_
          exact ret rfl (by exact (Eq.trans (if_neg c1_0) (Eq.trans (if_neg c1_1) (Eq.trans (if_neg c1_2) (Eq.trans (if_pos c1_3) rfl))))) hw dX7_look_147
        · refine sw_t K dX7_look_1 (k := 4) (tgt := 148) (by decide) (by decide) (fun c1_4 => ?_) (fun c1_4 => ?_)
          · refine lv_aload_n K.1 K.2.1 dX7_look_148 rfl (lv_at hl 0 rfl) ?_
            refine gD_0_2 K hw kf_X7_26 dX7_look_149 ?_
            refine gD_3_0 K hw kf_X7_151 dX7_look_152 ?_
            exact ret rfl (by exact (Eq.trans (if_neg c1_0) (Eq.trans (if_neg c1_1) (Eq.trans (if_neg c1_2) (Eq.trans (if_neg c1_3) (Eq.trans (if_pos c1_4) rfl)))))) hw dX7_look_155
          · refine sw_t K dX7_look_1 (k := 5) (tgt := 156) (by decide) (by decide) (fun c1_5 => ?_) (fun c1_5 => ?_)
            · refine lv_aload_n K.1 K.2.1 dX7_look_156 rfl (lv_at hl 0 rfl) ?_
              refine gD_0_2 K hw kf_X7_26 dX7_look_157 ?_
              refine gD_3_1 K hw kf_X7_154 dX7_look_160 ?_
              exact ret rfl (by exact (Eq.trans (if_neg c1_0) (Eq.trans (if_neg c1_1) (Eq.trans (if_neg c1_2) (Eq.trans (if_neg c1_3) (Eq.trans (if_neg c1_4) (Eq.trans (if_pos c1_5) rfl))))))) hw dX7_look_163
            · refine sw_t K dX7_look_1 (k := 6) (tgt := 164) (by decide) (by decide) (fun c1_6 => ?_) (fun c1_6 => ?_)
              · refine lv_aload_n K.1 K.2.1 dX7_look_164 rfl (lv_at hl 0 rfl) ?_
                refine gD_0_2 K hw kf_X7_26 dX7_look_165 ?_
                refine gD_3_4 K hw kf_X7_157 dX7_look_168 ?_
                exact ret rfl (by exact (Eq.trans (if_neg c1_0) (Eq.trans (if_neg c1_1) (Eq.trans (if_neg c1_2) (Eq.trans (if_neg c1_3) (Eq.trans (if_neg c1_4) (Eq.trans (if_neg c1_5) (Eq.trans (if_pos c1_6) rfl)))))))) hw dX7_look_171
              · refine sw_t K dX7_look_1 (k := 7) (tgt := 172) (by decide) (by decide) (fun c1_7 => ?_) (fun c1_7 => ?_)
                · refine lv_aload_n K.1 K.2.1 dX7_look_172 rfl (lv_at hl 0 rfl) ?_
                  refine gD_0_2 K hw kf_X7_26 dX7_look_173 ?_
                  refine gD_3_5 K hw kf_X7_160 dX7_look_176 ?_
                  exact ret rfl (by exact (Eq.trans (if_neg c1_0) (Eq.trans (if_neg c1_1) (Eq.trans (if_neg c1_2) (Eq.trans (if_neg c1_3) (Eq.trans (if_neg c1_4) (Eq.trans (if_neg c1_5) (Eq.trans (if_neg c1_6) (Eq.trans (if_pos c1_7) rfl))))))))) hw dX7_look_179
                · refine sw_t K dX7_look_1 (k := 8) (tgt := 180) (by decide) (by decide) (fun c1_8 => ?_) (fun c1_8 => ?_)
                  · refine lv_aload_n K.1 K.2.1 dX7_look_180 rfl (lv_at hl 0 rfl) ?_
                    refine gD_0_1 K hw kf_X7_19 dX7_look_181 ?_
                    refine gD_2_3 K hw kf_X7_95 dX7_look_184 ?_
                    exact ret rfl (by exact (Eq.trans (if_neg c1_0) (Eq.trans (if_neg c1_1) (Eq.trans (if_neg c1_2) (Eq.trans (if_neg c1_3) (Eq.trans (if_neg c1_4) (Eq.trans (if_neg c1_5) (Eq.trans (if_neg c1_6) (Eq.trans (if_neg c1_7) (Eq.trans (if_pos c1_8) rfl)))))))))) hw dX7_look_187
                  · refine sw_t K dX7_look_1 (k := 9) (tgt := 188) (by decide) (by decide) (fun c1_9 => ?_) (fun c1_9 => ?_)
                    · refine lv_aload_n K.1 K.2.1 dX7_look_188 rfl (lv_at hl 0 rfl) ?_
                      refine gD_0_1 K hw kf_X7_19 dX7_look_189 ?_
                      refine gD_2_4 K hw kf_X7_163 dX7_look_192 ?_
                      exact ret rfl (by exact (Eq.trans (if_neg c1_0) (Eq.trans (if_neg c1_1) (Eq.trans (if_neg c1_2) (Eq.trans (if_neg c1_3) (Eq.trans (if_neg c1_4) (Eq.trans (if_neg c1_5) (Eq.trans (if_neg c1_6) (Eq.trans (if_neg c1_7) (Eq.trans (if_neg c1_8) (Eq.trans (if_pos c1_9) rfl))))))))))) hw dX7_look_195
                    · refine sw_t K dX7_look_1 (k := 10) (tgt := 196) (by decide) (by decide) (fun c1_10 => ?_) (fun c1_10 => ?_)
                      · refine lv_aload_n K.1 K.2.1 dX7_look_196 rfl (lv_at hl 0 rfl) ?_
                        refine gD_0_1 K hw kf_X7_19 dX7_look_197 ?_
                        refine gD_2_0 K hw kf_X7_166 dX7_look_200 ?_
                        exact ret rfl (by exact (Eq.trans (if_neg c1_0) (Eq.trans (if_neg c1_1) (Eq.trans (if_neg c1_2) (Eq.trans (if_neg c1_3) (Eq.trans (if_neg c1_4) (Eq.trans (if_neg c1_5) (Eq.trans (if_neg c1_6) (Eq.trans (if_neg c1_7) (Eq.trans (if_neg c1_8) (Eq.trans (if_neg c1_9) (Eq.trans (if_pos c1_10) rfl)))))))))))) hw dX7_look_203
                      · refine sw_t K dX7_look_1 (k := 11) (tgt := 204) (by decide) (by decide) (fun c1_11 => ?_) (fun c1_11 => ?_)
                        · refine lv_aload_n K.1 K.2.1 dX7_look_204 rfl (lv_at hl 0 rfl) ?_
                          refine gD_0_1 K hw kf_X7_19 dX7_look_205 ?_
                          refine gD_2_1 K hw kf_X7_169 dX7_look_208 ?_
                          exact ret rfl (by exact (Eq.trans (if_neg c1_0) (Eq.trans (if_neg c1_1) (Eq.trans (if_neg c1_2) (Eq.trans (if_neg c1_3) (Eq.trans (if_neg c1_4) (Eq.trans (if_neg c1_5) (Eq.trans (if_neg c1_6) (Eq.trans (if_neg c1_7) (Eq.trans (if_neg c1_8) (Eq.trans (if_neg c1_9) (Eq.trans (if_neg c1_10) (Eq.trans (if_pos c1_11) rfl))))))))))))) hw dX7_look_211
                        · refine sw_t K dX7_look_1 (k := 12) (tgt := 212) (by decide) (by decide) (fun c1_12 => ?_) (fun c1_12 => ?_)
                          · refine lv_aload_n K.1 K.2.1 dX7_look_212 rfl (lv_at hl 0 rfl) ?_
                            refine gD_0_2 K hw kf_X7_26 dX7_look_213 ?_
                            refine gD_3_8 K hw kf_X7_172 dX7_look_216 ?_
                            refine lv_if_eq (tgt := 226) K.1 K.2.1 dX7_look_219 (by decide) (fun c219 => ?_) (fun c219 => ?_)
                            · refine lv_iconst (v := 0) K.1 K.2.1 dX7_look_226 (by decide) ?_
                              exact ret rfl (by exact (Eq.trans (if_neg c1_0) (Eq.trans (if_neg c1_1) (Eq.trans (if_neg c1_2) (Eq.trans (if_neg c1_3) (Eq.trans (if_neg c1_4) (Eq.trans (if_neg c1_5) (Eq.trans (if_neg c1_6) (Eq.trans (if_neg c1_7) (Eq.trans (if_neg c1_8) (Eq.trans (if_neg c1_9) (Eq.trans (if_neg c1_10) (Eq.trans (if_neg c1_11) (Eq.trans (if_pos c1_12) (Eq.trans (if_pos c219) rfl))))))))))))))) hw dX7_look_227
                            · refine lv_iconst (v := 1) K.1 K.2.1 dX7_look_222 (by decide) ?_
                              refine lv_goto (tgt := 227) K.1 K.2.1 dX7_look_223 (by decide) ?_
                              exact ret rfl (by exact (Eq.trans (if_neg c1_0) (Eq.trans (if_neg c1_1) (Eq.trans (if_neg c1_2) (Eq.trans (if_neg c1_3) (Eq.trans (if_neg c1_4) (Eq.trans (if_neg c1_5) (Eq.trans (if_neg c1_6) (Eq.trans (if_neg c1_7) (Eq.trans (if_neg c1_8) (Eq.trans (if_neg c1_9) (Eq.trans (if_neg c1_10) (Eq.trans (if_neg c1_11) (Eq.trans (if_pos c1_12) (Eq.trans (if_neg c219) rfl))))))))))))))) hw dX7_look_227
                          · refine sw_t K dX7_look_1 (k := 13) (tgt := 228) (by decide) (by decide) (fun c1_13 => ?_) (fun c1_13 => ?_)
                            · refine lv_aload_n K.1 K.2.1 dX7_look_228 rfl (lv_at hl 0 rfl) ?_
                              refine gD_0_2 K hw kf_X7_26 dX7_look_229 ?_
                              refine gD_3_9 K hw kf_X7_175 dX7_look_232 ?_
                              refine lv_if_eq (tgt := 242) K.1 K.2.1 dX7_look_235 (by decide) (fun c235 => ?_) (fun c235 => ?_)
                              · refine lv_iconst (v := 0) K.1 K.2.1 dX7_look_242 (by decide) ?_
                                exact ret rfl (by exact (Eq.trans (if_neg c1_0) (Eq.trans (if_neg c1_1) (Eq.trans (if_neg c1_2) (Eq.trans (if_neg c1_3) (Eq.trans (if_neg c1_4) (Eq.trans (if_neg c1_5) (Eq.trans (if_neg c1_6) (Eq.trans (if_neg c1_7) (Eq.trans (if_neg c1_8) (Eq.trans (if_neg c1_9) (Eq.trans (if_neg c1_10) (Eq.trans (if_neg c1_11) (Eq.trans (if_neg c1_12) (Eq.trans (if_pos c1_13) (Eq.trans (if_pos c235) rfl)))))))))))))))) hw dX7_look_243
                              · refine lv_iconst (v := 1) K.1 K.2.1 dX7_look_238 (by decide) ?_
                                refine lv_goto (tgt := 243) K.1 K.2.1 dX7_look_239 (by decide) ?_
                                exact ret rfl (by exact (Eq.trans (if_neg c1_0) (Eq.trans (if_neg c1_1) (Eq.trans (if_neg c1_2) (Eq.trans (if_neg c1_3) (Eq.trans (if_neg c1_4) (Eq.trans (if_neg c1_5) (Eq.trans (if_neg c1_6) (Eq.trans (if_neg c1_7) (Eq.trans (if_neg c1_8) (Eq.trans (if_neg c1_9) (Eq.trans (if_neg c1_10) (Eq.trans (if_neg c1_11) (Eq.trans (if_neg c1_12) (Eq.trans (if_pos c1_13) (Eq.trans (if_neg c235) rfl)))))))))))))))) hw dX7_look_243
                            · refine sw_t K dX7_look_1 (k := 14) (tgt := 244) (by decide) (by decide) (fun c1_14 => ?_) (fun c1_14 => ?_)
                              · refine lv_aload_n K.1 K.2.1 dX7_look_244 rfl (lv_at hl 0 rfl) ?_
                                refine gD_0_2 K hw kf_X7_26 dX7_look_245 ?_
                                refine gD_3_10 K hw kf_X7_178 dX7_look_248 ?_
                                exact ret rfl (by exact (Eq.trans (if_neg c1_0) (Eq.trans (if_neg c1_1) (Eq.trans (if_neg c1_2) (Eq.trans (if_neg c1_3) (Eq.trans (if_neg c1_4) (Eq.trans (if_neg c1_5) (Eq.trans (if_neg c1_6) (Eq.trans (if_neg c1_7) (Eq.trans (if_neg c1_8) (Eq.trans (if_neg c1_9) (Eq.trans (if_neg c1_10) (Eq.trans (if_neg c1_11) (Eq.trans (if_neg c1_12) (Eq.trans (if_neg c1_13) (Eq.trans (if_pos c1_14) rfl)))))))))))))))) hw dX7_look_251
                              · refine sw_t K dX7_look_1 (k := 15) (tgt := 252) (by decide) (by decide) (fun c1_15 => ?_) (fun c1_15 => ?_)
                                · refine lv_aload_n K.1 K.2.1 dX7_look_252 rfl (lv_at hl 0 rfl) ?_
                                  refine gD_0_1 K hw kf_X7_19 dX7_look_253 ?_
                                  refine gD_2_2 K hw kf_X7_181 dX7_look_256 ?_
                                  exact ret rfl (by exact (Eq.trans (if_neg c1_0) (Eq.trans (if_neg c1_1) (Eq.trans (if_neg c1_2) (Eq.trans (if_neg c1_3) (Eq.trans (if_neg c1_4) (Eq.trans (if_neg c1_5) (Eq.trans (if_neg c1_6) (Eq.trans (if_neg c1_7) (Eq.trans (if_neg c1_8) (Eq.trans (if_neg c1_9) (Eq.trans (if_neg c1_10) (Eq.trans (if_neg c1_11) (Eq.trans (if_neg c1_12) (Eq.trans (if_neg c1_13) (Eq.trans (if_neg c1_14) (Eq.trans (if_pos c1_15) rfl))))))))))))))))) hw dX7_look_259
                                · refine sw_t K dX7_look_1 (k := 16) (tgt := 260) (by decide) (by decide) (fun c1_16 => ?_) (fun c1_16 => ?_)
                                  · refine lv_aload_n K.1 K.2.1 dX7_look_260 rfl (lv_at hl 0 rfl) ?_
                                    refine gD_0_2 K hw kf_X7_26 dX7_look_261 ?_
                                    refine gD_3_11 K hw kf_X7_184 dX7_look_264 ?_
                                    exact ret rfl (by exact (Eq.trans (if_neg c1_0) (Eq.trans (if_neg c1_1) (Eq.trans (if_neg c1_2) (Eq.trans (if_neg c1_3) (Eq.trans (if_neg c1_4) (Eq.trans (if_neg c1_5) (Eq.trans (if_neg c1_6) (Eq.trans (if_neg c1_7) (Eq.trans (if_neg c1_8) (Eq.trans (if_neg c1_9) (Eq.trans (if_neg c1_10) (Eq.trans (if_neg c1_11) (Eq.trans (if_neg c1_12) (Eq.trans (if_neg c1_13) (Eq.trans (if_neg c1_14) (Eq.trans (if_neg c1_15) (Eq.trans (if_pos c1_16) rfl)))))))))))))))))) hw dX7_look_267
                                  · refine sw_t K dX7_look_1 (k := 17) (tgt := 268) (by decide) (by decide) (fun c1_17 => ?_) (fun c1_17 => ?_)
                                    · refine lv_aload_n K.1 K.2.1 dX7_look_268 rfl (lv_at hl 0 rfl) ?_
                                      refine gD_0_2 K hw kf_X7_26 dX7_look_269 ?_
                                      refine gD_3_12 K hw kf_X7_142 dX7_look_272 ?_
                                      exact ret rfl (by exact (Eq.trans (if_neg c1_0) (Eq.trans (if_neg c1_1) (Eq.trans (if_neg c1_2) (Eq.trans (if_neg c1_3) (Eq.trans (if_neg c1_4) (Eq.trans (if_neg c1_5) (Eq.trans (if_neg c1_6) (Eq.trans (if_neg c1_7) (Eq.trans (if_neg c1_8) (Eq.trans (if_neg c1_9) (Eq.trans (if_neg c1_10) (Eq.trans (if_neg c1_11) (Eq.trans (if_neg c1_12) (Eq.trans (if_neg c1_13) (Eq.trans (if_neg c1_14) (Eq.trans (if_neg c1_15) (Eq.trans (if_neg c1_16) (Eq.trans (if_pos c1_17) rfl))))))))))))))))))) hw dX7_look_275
                                    · refine sw_t K dX7_look_1 (k := 18) (tgt := 276) (by decide) (by decide) (fun c1_18 => ?_) (fun c1_18 => ?_)
                                      · refine lv_aload_n K.1 K.2.1 dX7_look_276 rfl (lv_at hl 0 rfl) ?_
                                        refine gD_0_5 K hw kf_X7_41 dX7_look_277 ?_
                                        refine gD_4_1 K hw kf_X7_111 dX7_look_280 ?_
                                        exact ret rfl (by exact (Eq.trans (if_neg c1_0) (Eq.trans (if_neg c1_1) (Eq.trans (if_neg c1_2) (Eq.trans (if_neg c1_3) (Eq.trans (if_neg c1_4) (Eq.trans (if_neg c1_5) (Eq.trans (if_neg c1_6) (Eq.trans (if_neg c1_7) (Eq.trans (if_neg c1_8) (Eq.trans (if_neg c1_9) (Eq.trans (if_neg c1_10) (Eq.trans (if_neg c1_11) (Eq.trans (if_neg c1_12) (Eq.trans (if_neg c1_13) (Eq.trans (if_neg c1_14) (Eq.trans (if_neg c1_15) (Eq.trans (if_neg c1_16) (Eq.trans (if_neg c1_17) (Eq.trans (if_pos c1_18) rfl)))))))))))))))))))) hw dX7_look_283
                                      · refine sw_t K dX7_look_1 (k := 19) (tgt := 284) (by decide) (by decide) (fun c1_19 => ?_) (fun c1_19 => ?_)
                                        · refine lv_aload_n K.1 K.2.1 dX7_look_284 rfl (lv_at hl 0 rfl) ?_
                                          refine gD_0_5 K hw kf_X7_41 dX7_look_285 ?_
                                          refine caI K hw (c_X6_isOverrun l D a cA _) hl.1 (tt_V km_X7_187 kI_X6_isOverrun ks_X6_isOverrun ki_X6 kC_X6_isOverrun) 4 (ci := 6) rfl rfl rfl (na := 0) rfl (by decide +kernel) ⟨rfl, rfl⟩ (by decide) ⟨Nat.zero_le _, Nat.zero_le _⟩ rfl (Nat.le_of_ble_eq_true rfl) dX7_look_288 (fun H locs hw => ?_)
                                          refine lv_if_eq (tgt := 298) K.1 K.2.1 dX7_look_291 (by decide) (fun c291 => ?_) (fun c291 => ?_)
                                          · refine lv_iconst (v := 0) K.1 K.2.1 dX7_look_298 (by decide) ?_
                                            exact ret rfl (by exact (Eq.trans (if_neg c1_0) (Eq.trans (if_neg c1_1) (Eq.trans (if_neg c1_2) (Eq.trans (if_neg c1_3) (Eq.trans (if_neg c1_4) (Eq.trans (if_neg c1_5) (Eq.trans (if_neg c1_6) (Eq.trans (if_neg c1_7) (Eq.trans (if_neg c1_8) (Eq.trans (if_neg c1_9) (Eq.trans (if_neg c1_10) (Eq.trans (if_neg c1_11) (Eq.trans (if_neg c1_12) (Eq.trans (if_neg c1_13) (Eq.trans (if_neg c1_14) (Eq.trans (if_neg c1_15) (Eq.trans (if_neg c1_16) (Eq.trans (if_neg c1_17) (Eq.trans (if_neg c1_18) (Eq.trans (if_pos c1_19) (Eq.trans (if_pos c291) rfl)))))))))))))))))))))) hw dX7_look_299
                                          · refine lv_iconst (v := 1) K.1 K.2.1 dX7_look_294 (by decide) ?_
                                            refine lv_goto (tgt := 299) K.1 K.2.1 dX7_look_295 (by decide) ?_
                                            exact ret rfl (by exact (Eq.trans (if_neg c1_0) (Eq.trans (if_neg c1_1) (Eq.trans (if_neg c1_2) (Eq.trans (if_neg c1_3) (Eq.trans (if_neg c1_4) (Eq.trans (if_neg c1_5) (Eq.trans (if_neg c1_6) (Eq.trans (if_neg c1_7) (Eq.trans (if_neg c1_8) (Eq.trans (if_neg c1_9) (Eq.trans (if_neg c1_10) (Eq.trans (if_neg c1_11) (Eq.trans (if_neg c1_12) (Eq.trans (if_neg c1_13) (Eq.trans (if_neg c1_14) (Eq.trans (if_neg c1_15) (Eq.trans (if_neg c1_16) (Eq.trans (if_neg c1_17) (Eq.trans (if_neg c1_18) (Eq.trans (if_pos c1_19) (Eq.trans (if_neg c291) rfl)))))))))))))))))))))) hw dX7_look_299
                                        · refine sw_t K dX7_look_1 (k := 20) (tgt := 300) (by decide) (by decide) (fun c1_20 => ?_) (fun c1_20 => ?_)
                                          · refine lv_aload_n K.1 K.2.1 dX7_look_300 rfl (lv_at hl 0 rfl) ?_
                                            refine gD_0_6 K hw kf_X7_48 dX7_look_301 ?_
                                            refine gD_5_1 K hw kf_X7_190 dX7_look_304 ?_
                                            exact ret rfl (by exact (Eq.trans (if_neg c1_0) (Eq.trans (if_neg c1_1) (Eq.trans (if_neg c1_2) (Eq.trans (if_neg c1_3) (Eq.trans (if_neg c1_4) (Eq.trans (if_neg c1_5) (Eq.trans (if_neg c1_6) (Eq.trans (if_neg c1_7) (Eq.trans (if_neg c1_8) (Eq.trans (if_neg c1_9) (Eq.trans (if_neg c1_10) (Eq.trans (if_neg c1_11) (Eq.trans (if_neg c1_12) (Eq.trans (if_neg c1_13) (Eq.trans (if_neg c1_14) (Eq.trans (if_neg c1_15) (Eq.trans (if_neg c1_16) (Eq.trans (if_neg c1_17) (Eq.trans (if_neg c1_18) (Eq.trans (if_neg c1_19) (Eq.trans (if_pos c1_20) rfl)))))))))))))))))))))) hw dX7_look_307
                                          · refine sw_t K dX7_look_1 (k := 21) (tgt := 308) (by decide) (by decide) (fun c1_21 => ?_) (fun c1_21 => ?_)
                                            · refine lv_aload_n K.1 K.2.1 dX7_look_308 rfl (lv_at hl 0 rfl) ?_
                                              refine gD_0_7 K hw kf_X7_55 dX7_look_309 ?_
                                              refine gD_6_2 K hw kf_X7_126 dX7_look_312 ?_
                                              exact ret rfl (by exact (Eq.trans (if_neg c1_0) (Eq.trans (if_neg c1_1) (Eq.trans (if_neg c1_2) (Eq.trans (if_neg c1_3) (Eq.trans (if_neg c1_4) (Eq.trans (if_neg c1_5) (Eq.trans (if_neg c1_6) (Eq.trans (if_neg c1_7) (Eq.trans (if_neg c1_8) (Eq.trans (if_neg c1_9) (Eq.trans (if_neg c1_10) (Eq.trans (if_neg c1_11) (Eq.trans (if_neg c1_12) (Eq.trans (if_neg c1_13) (Eq.trans (if_neg c1_14) (Eq.trans (if_neg c1_15) (Eq.trans (if_neg c1_16) (Eq.trans (if_neg c1_17) (Eq.trans (if_neg c1_18) (Eq.trans (if_neg c1_19) (Eq.trans (if_neg c1_20) (Eq.trans (if_pos c1_21) rfl))))))))))))))))))))))) hw dX7_look_315
                                            · refine sw_t K dX7_look_1 (k := 22) (tgt := 316) (by decide) (by decide) (fun c1_22 => ?_) (fun c1_22 => ?_)
                                              · refine lv_aload_n K.1 K.2.1 dX7_look_316 rfl (lv_at hl 0 rfl) ?_
                                                refine gD_0_9 K hw kf_X7_191 dX7_look_317 ?_
                                                exact ret rfl (by exact (Eq.trans (if_neg c1_0) (Eq.trans (if_neg c1_1) (Eq.trans (if_neg c1_2) (Eq.trans (if_neg c1_3) (Eq.trans (if_neg c1_4) (Eq.trans (if_neg c1_5) (Eq.trans (if_neg c1_6) (Eq.trans (if_neg c1_7) (Eq.trans (if_neg c1_8) (Eq.trans (if_neg c1_9) (Eq.trans (if_neg c1_10) (Eq.trans (if_neg c1_11) (Eq.trans (if_neg c1_12) (Eq.trans (if_neg c1_13) (Eq.trans (if_neg c1_14) (Eq.trans (if_neg c1_15) (Eq.trans (if_neg c1_16) (Eq.trans (if_neg c1_17) (Eq.trans (if_neg c1_18) (Eq.trans (if_neg c1_19) (Eq.trans (if_neg c1_20) (Eq.trans (if_neg c1_21) (Eq.trans (if_pos c1_22) rfl)))))))))))))))))))))))) hw dX7_look_320
                                              · refine sw_t K dX7_look_1 (k := 23) (tgt := 321) (by decide) (by decide) (fun c1_23 => ?_) (fun c1_23 => ?_)
                                                · refine lv_aload_n K.1 K.2.1 dX7_look_321 rfl (lv_at hl 0 rfl) ?_
                                                  refine gD_0_0 K hw kf_X7_10 dX7_look_322 ?_
                                                  refine caI K hw (c_X5_isUnderWay l D a cA _) hl.1 (tt_V km_X7_194 kI_X5_isUnderWay ks_X5_isUnderWay ki_X5 kC_X5_isUnderWay) 1 (ci := 5) rfl rfl rfl (na := 0) rfl (by decide +kernel) ⟨rfl, rfl⟩ (by decide) ⟨Nat.zero_le _, Nat.zero_le _⟩ rfl (Nat.le_of_ble_eq_true rfl) dX7_look_325 (fun H locs hw => ?_)
                                                  refine lv_if_eq (tgt := 335) K.1 K.2.1 dX7_look_328 (by decide) (fun c328 => ?_) (fun c328 => ?_)
                                                  · refine lv_iconst (v := 0) K.1 K.2.1 dX7_look_335 (by decide) ?_
                                                    exact ret rfl (by exact (Eq.trans (if_neg c1_0) (Eq.trans (if_neg c1_1) (Eq.trans (if_neg c1_2) (Eq.trans (if_neg c1_3) (Eq.trans (if_neg c1_4) (Eq.trans (if_neg c1_5) (Eq.trans (if_neg c1_6) (Eq.trans (if_neg c1_7) (Eq.trans (if_neg c1_8) (Eq.trans (if_neg c1_9) (Eq.trans (if_neg c1_10) (Eq.trans (if_neg c1_11) (Eq.trans (if_neg c1_12) (Eq.trans (if_neg c1_13) (Eq.trans (if_neg c1_14) (Eq.trans (if_neg c1_15) (Eq.trans (if_neg c1_16) (Eq.trans (if_neg c1_17) (Eq.trans (if_neg c1_18) (Eq.trans (if_neg c1_19) (Eq.trans (if_neg c1_20) (Eq.trans (if_neg c1_21) (Eq.trans (if_neg c1_22) (Eq.trans (if_pos c1_23) (Eq.trans (if_pos c328) rfl)))))))))))))))))))))))))) hw dX7_look_336
                                                  · refine lv_iconst (v := 1) K.1 K.2.1 dX7_look_331 (by decide) ?_
                                                    refine lv_goto (tgt := 336) K.1 K.2.1 dX7_look_332 (by decide) ?_
                                                    exact ret rfl (by exact (Eq.trans (if_neg c1_0) (Eq.trans (if_neg c1_1) (Eq.trans (if_neg c1_2) (Eq.trans (if_neg c1_3) (Eq.trans (if_neg c1_4) (Eq.trans (if_neg c1_5) (Eq.trans (if_neg c1_6) (Eq.trans (if_neg c1_7) (Eq.trans (if_neg c1_8) (Eq.trans (if_neg c1_9) (Eq.trans (if_neg c1_10) (Eq.trans (if_neg c1_11) (Eq.trans (if_neg c1_12) (Eq.trans (if_neg c1_13) (Eq.trans (if_neg c1_14) (Eq.trans (if_neg c1_15) (Eq.trans (if_neg c1_16) (Eq.trans (if_neg c1_17) (Eq.trans (if_neg c1_18) (Eq.trans (if_neg c1_19) (Eq.trans (if_neg c1_20) (Eq.trans (if_neg c1_21) (Eq.trans (if_neg c1_22) (Eq.trans (if_pos c1_23) (Eq.trans (if_neg c328) rfl)))))))))))))))))))))))))) hw dX7_look_336
                                                · refine sw_t K dX7_look_1 (k := 24) (tgt := 337) (by decide) (by decide) (fun c1_24 => ?_) (fun c1_24 => ?_)
                                                  · refine lv_aload_n K.1 K.2.1 dX7_look_337 rfl (lv_at hl 0 rfl) ?_
                                                    refine gD_0_5 K hw kf_X7_41 dX7_look_338 ?_
                                                    refine caI K hw (c_X6_isDue l D a cA _) hl.1 (tt_V km_X7_197 kI_X6_isDue ks_X6_isDue ki_X6 kC_X6_isDue) 4 (ci := 6) rfl rfl rfl (na := 0) rfl (by decide +kernel) ⟨rfl, rfl⟩ (by decide) ⟨Nat.zero_le _, Nat.zero_le _⟩ rfl (Nat.le_of_ble_eq_true rfl) dX7_look_341 (fun H locs hw => ?_)
                                                    refine lv_if_eq (tgt := 351) K.1 K.2.1 dX7_look_344 (by decide) (fun c344 => ?_) (fun c344 => ?_)
                                                    · refine lv_iconst (v := 0) K.1 K.2.1 dX7_look_351 (by decide) ?_
                                                      exact ret rfl (by exact (Eq.trans (if_neg c1_0) (Eq.trans (if_neg c1_1) (Eq.trans (if_neg c1_2) (Eq.trans (if_neg c1_3) (Eq.trans (if_neg c1_4) (Eq.trans (if_neg c1_5) (Eq.trans (if_neg c1_6) (Eq.trans (if_neg c1_7) (Eq.trans (if_neg c1_8) (Eq.trans (if_neg c1_9) (Eq.trans (if_neg c1_10) (Eq.trans (if_neg c1_11) (Eq.trans (if_neg c1_12) (Eq.trans (if_neg c1_13) (Eq.trans (if_neg c1_14) (Eq.trans (if_neg c1_15) (Eq.trans (if_neg c1_16) (Eq.trans (if_neg c1_17) (Eq.trans (if_neg c1_18) (Eq.trans (if_neg c1_19) (Eq.trans (if_neg c1_20) (Eq.trans (if_neg c1_21) (Eq.trans (if_neg c1_22) (Eq.trans (if_neg c1_23) (Eq.trans (if_pos c1_24) (Eq.trans (if_pos c344) rfl))))))))))))))))))))))))))) hw dX7_look_352
                                                    · refine lv_iconst (v := 1) K.1 K.2.1 dX7_look_347 (by decide) ?_
                                                      refine lv_goto (tgt := 352) K.1 K.2.1 dX7_look_348 (by decide) ?_
                                                      exact ret rfl (by exact (Eq.trans (if_neg c1_0) (Eq.trans (if_neg c1_1) (Eq.trans (if_neg c1_2) (Eq.trans (if_neg c1_3) (Eq.trans (if_neg c1_4) (Eq.trans (if_neg c1_5) (Eq.trans (if_neg c1_6) (Eq.trans (if_neg c1_7) (Eq.trans (if_neg c1_8) (Eq.trans (if_neg c1_9) (Eq.trans (if_neg c1_10) (Eq.trans (if_neg c1_11) (Eq.trans (if_neg c1_12) (Eq.trans (if_neg c1_13) (Eq.trans (if_neg c1_14) (Eq.trans (if_neg c1_15) (Eq.trans (if_neg c1_16) (Eq.trans (if_neg c1_17) (Eq.trans (if_neg c1_18) (Eq.trans (if_neg c1_19) (Eq.trans (if_neg c1_20) (Eq.trans (if_neg c1_21) (Eq.trans (if_neg c1_22) (Eq.trans (if_neg c1_23) (Eq.trans (if_pos c1_24) (Eq.trans (if_neg c344) rfl))))))))))))))))))))))))))) hw dX7_look_352
                                                  · refine lv_tableOut (tgt := 353) K.1 K.2.1 dX7_look_1 (by have h0 := lv_neT c1_0 (a := 0) rfl; have h1 := lv_neT c1_1 (a := 1) rfl; have h2 := lv_neT c1_2 (a := 2) rfl; have h3 := lv_neT c1_3 (a := 3) rfl; have h4 := lv_neT c1_4 (a := 4) rfl; have h5 := lv_neT c1_5 (a := 5) rfl; have h6 := lv_neT c1_6 (a := 6) rfl; have h7 := lv_neT c1_7 (a := 7) rfl; have h8 := lv_neT c1_8 (a := 8) rfl; have h9 := lv_neT c1_9 (a := 9) rfl; have h10 := lv_neT c1_10 (a := 10) rfl; have h11 := lv_neT c1_11 (a := 11) rfl; have h12 := lv_neT c1_12 (a := 12) rfl; have h13 := lv_neT c1_13 (a := 13) rfl; have h14 := lv_neT c1_14 (a := 14) rfl; have h15 := lv_neT c1_15 (a := 15) rfl; have h16 := lv_neT c1_16 (a := 16) rfl; have h17 := lv_neT c1_17 (a := 17) rfl; have h18 := lv_neT c1_18 (a := 18) rfl; have h19 := lv_neT c1_19 (a := 19) rfl; have h20 := lv_neT c1_20 (a := 20) rfl; have h21 := lv_neT c1_21 (a := 21) rfl; have h22 := lv_neT c1_22 (a := 22) rfl; have h23 := lv_neT c1_23 (a := 23) rfl; have h24 := lv_neT c1_24 (a := 24) rfl; omega) (by decide) ?_
                                                    refine lv_iconst (v := (-1)) K.1 K.2.1 dX7_look_353 (by decide) ?_
                                                    exact ret rfl (by exact (Eq.trans (if_neg c1_0) (Eq.trans (if_neg c1_1) (Eq.trans (if_neg c1_2) (Eq.trans (if_neg c1_3) (Eq.trans (if_neg c1_4) (Eq.trans (if_neg c1_5) (Eq.trans (if_neg c1_6) (Eq.trans (if_neg c1_7) (Eq.trans (if_neg c1_8) (Eq.trans (if_neg c1_9) (Eq.trans (if_neg c1_10) (Eq.trans (if_neg c1_11) (Eq.trans (if_neg c1_12) (Eq.trans (if_neg c1_13) (Eq.trans (if_neg c1_14) (Eq.trans (if_neg c1_15) (Eq.trans (if_neg c1_16) (Eq.trans (if_neg c1_17) (Eq.trans (if_neg c1_18) (Eq.trans (if_neg c1_19) (Eq.trans (if_neg c1_20) (Eq.trans (if_neg c1_21) (Eq.trans (if_neg c1_22) (Eq.trans (if_neg c1_23) (Eq.trans (if_neg c1_24) rfl)))))))))))))))))))))))))) hw dX7_look_354
