def TT : List Cond := lw_tbl.filter goodWord
theorem tt_m {w : Cond} (h : w ∈ lw_tbl) (g : goodWord w = true) : w ∈ TT := List.mem_filter.mpr ⟨h, g⟩
theorem tt_l {w : Cond} (h : w ∈ TT) : w ∈ lw_tbl := (List.mem_filter.mp h).1
theorem tt_g {w : Cond} (h : w ∈ TT) : (w.onTables && w.keeps) = true ∨ ∃ ty, w = .arrayClass ty := good_of_word (List.mem_filter.mp h).2
theorem tt_c {x : Cond} (h : x ∈ TT) : GoodIn TT (x :: TT) := fun w hw => by
  rcases List.mem_cons.mp hw with rfl | hw
  · exact ⟨h, tt_g h⟩
  · exact ⟨hw, tt_g hw⟩
theorem tt_V {own C : String} {idx n : Nat} {y : MethodName} {b : ByteArray} {r : Option FieldType} (h1 : Cond.methodLink own idx y ∈ TT) (h2 : Cond.instanceMethod y ∈ TT) (h3 : Cond.selects C y y ∈ TT) (h4 : Cond.initialized C ∈ TT) (h5 : Cond.code y b n r ∈ TT) : GoodIn TT (wsV own idx C y (Cond.code y b n r :: TT)) := fun w hw => by
  simp only [wsV, List.cons_append, List.nil_append, List.mem_cons] at hw
  rcases hw with rfl | rfl | rfl | rfl | rfl | hw
  · exact ⟨h1, tt_g h1⟩
  · exact ⟨h2, tt_g h2⟩
  · exact ⟨h3, tt_g h3⟩
  · exact ⟨h4, tt_g h4⟩
  · exact ⟨h5, tt_g h5⟩
  · exact ⟨hw, tt_g hw⟩
theorem tt_S {own : String} {idx n : Nat} {y : MethodName} {b : ByteArray} {r : Option FieldType} (h1 : Cond.methodLink own idx y ∈ TT) (h2 : Cond.static y ∈ TT) (h4 : Cond.initialized own ∈ TT) (h5 : Cond.code y b n r ∈ TT) : GoodIn TT (wsS own idx y (Cond.code y b n r :: TT)) := fun w hw => by
  simp only [wsS, List.cons_append, List.nil_append, List.mem_cons] at hw
  rcases hw with rfl | rfl | rfl | rfl | hw
  · exact ⟨h1, tt_g h1⟩
  · exact ⟨h2, tt_g h2⟩
  · exact ⟨h4, tt_g h4⟩
  · exact ⟨h5, tt_g h5⟩
  · exact ⟨hw, tt_g hw⟩
theorem ks_X7_reset : Cond.selects RX7 yX7_reset yX7_reset ∈ TT := tt_m (List.mem_of_getElem? (i := 0) (by decide +kernel)) rfl
theorem ks_X4_longSide : Cond.selects RX4 yX4_longSide yX4_longSide ∈ TT := tt_m (List.mem_of_getElem? (i := 1) (by decide +kernel)) rfl
theorem ks_X4_shortSide : Cond.selects RX4 yX4_shortSide yX4_shortSide ∈ TT := tt_m (List.mem_of_getElem? (i := 2) (by decide +kernel)) rfl
theorem ks_X7_setDefaults : Cond.selects RX7 yX7_setDefaults yX7_setDefaults ∈ TT := tt_m (List.mem_of_getElem? (i := 3) (by decide +kernel)) rfl
theorem ks_X7_setY : Cond.selects RX7 yX7_setY yX7_setY ∈ TT := tt_m (List.mem_of_getElem? (i := 4) (by decide +kernel)) rfl
theorem ks_X7_byteComes : Cond.selects RX7 yX7_byteComes yX7_byteComes ∈ TT := tt_m (List.mem_of_getElem? (i := 5) (by decide +kernel)) rfl
theorem ks_X5_behindEsc : Cond.selects RX5 yX5_behindEsc yX5_behindEsc ∈ TT := tt_m (List.mem_of_getElem? (i := 6) (by decide +kernel)) rfl
theorem ks_X5_behindFamily : Cond.selects RX5 yX5_behindFamily yX5_behindFamily ∈ TT := tt_m (List.mem_of_getElem? (i := 7) (by decide +kernel)) rfl
theorem ks_X5_beginField : Cond.selects RX5 yX5_beginField yX5_beginField ∈ TT := tt_m (List.mem_of_getElem? (i := 8) (by decide +kernel)) rfl
theorem ks_X5_inField : Cond.selects RX5 yX5_inField yX5_inField ∈ TT := tt_m (List.mem_of_getElem? (i := 9) (by decide +kernel)) rfl
theorem ks_X5_endField : Cond.selects RX5 yX5_endField yX5_endField ∈ TT := tt_m (List.mem_of_getElem? (i := 10) (by decide +kernel)) rfl
theorem ks_X5_belongsToValue : Cond.selects RX5 yX5_belongsToValue yX5_belongsToValue ∈ TT := tt_m (List.mem_of_getElem? (i := 11) (by decide +kernel)) rfl
theorem ks_X5_digit : Cond.selects RX5 yX5_digit yX5_digit ∈ TT := tt_m (List.mem_of_getElem? (i := 12) (by decide +kernel)) rfl
theorem ks_X7_character : Cond.selects RX7 yX7_character yX7_character ∈ TT := tt_m (List.mem_of_getElem? (i := 13) (by decide +kernel)) rfl
theorem ks_X7_carriageReturn : Cond.selects RX7 yX7_carriageReturn yX7_carriageReturn ∈ TT := tt_m (List.mem_of_getElem? (i := 14) (by decide +kernel)) rfl
theorem ks_X7_lineFeed : Cond.selects RX7 yX7_lineFeed yX7_lineFeed ∈ TT := tt_m (List.mem_of_getElem? (i := 15) (by decide +kernel)) rfl
theorem ks_X7_eject : Cond.selects RX7 yX7_eject yX7_eject ∈ TT := tt_m (List.mem_of_getElem? (i := 16) (by decide +kernel)) rfl
theorem ks_X7_setX : Cond.selects RX7 yX7_setX yX7_setX ∈ TT := tt_m (List.mem_of_getElem? (i := 17) (by decide +kernel)) rfl
theorem ks_X7_controlCode : Cond.selects RX7 yX7_controlCode yX7_controlCode ∈ TT := tt_m (List.mem_of_getElem? (i := 18) (by decide +kernel)) rfl
theorem ks_X7_backspace : Cond.selects RX7 yX7_backspace yX7_backspace ∈ TT := tt_m (List.mem_of_getElem? (i := 19) (by decide +kernel)) rfl
theorem ks_X7_tab : Cond.selects RX7 yX7_tab yX7_tab ∈ TT := tt_m (List.mem_of_getElem? (i := 20) (by decide +kernel)) rfl
theorem ks_X7_returnIfLineEndsSo : Cond.selects RX7 yX7_returnIfLineEndsSo yX7_returnIfLineEndsSo ∈ TT := tt_m (List.mem_of_getElem? (i := 21) (by decide +kernel)) rfl
theorem ks_X7_returnWithLineEnd : Cond.selects RX7 yX7_returnWithLineEnd yX7_returnWithLineEnd ∈ TT := tt_m (List.mem_of_getElem? (i := 22) (by decide +kernel)) rfl
theorem ks_X7_shortSequence : Cond.selects RX7 yX7_shortSequence yX7_shortSequence ∈ TT := tt_m (List.mem_of_getElem? (i := 23) (by decide +kernel)) rfl
theorem ks_X7_command : Cond.selects RX7 yX7_command yX7_command ∈ TT := tt_m (List.mem_of_getElem? (i := 24) (by decide +kernel)) rfl
theorem ks_X7_pageCommand : Cond.selects RX7 yX7_pageCommand yX7_pageCommand ∈ TT := tt_m (List.mem_of_getElem? (i := 25) (by decide +kernel)) rfl
theorem ks_X7_changePaper : Cond.selects RX7 yX7_changePaper yX7_changePaper ∈ TT := tt_m (List.mem_of_getElem? (i := 26) (by decide +kernel)) rfl
theorem ks_X7_setStepDown : Cond.selects RX7 yX7_setStepDown yX7_setStepDown ∈ TT := tt_m (List.mem_of_getElem? (i := 27) (by decide +kernel)) rfl
theorem ks_X7_setLinesPerInch : Cond.selects RX7 yX7_setLinesPerInch yX7_setLinesPerInch ∈ TT := tt_m (List.mem_of_getElem? (i := 28) (by decide +kernel)) rfl
theorem ks_X7_setTop : Cond.selects RX7 yX7_setTop yX7_setTop ∈ TT := tt_m (List.mem_of_getElem? (i := 29) (by decide +kernel)) rfl
theorem ks_X7_setLength : Cond.selects RX7 yX7_setLength yX7_setLength ∈ TT := tt_m (List.mem_of_getElem? (i := 30) (by decide +kernel)) rfl
theorem ks_X7_spacingCommand : Cond.selects RX7 yX7_spacingCommand yX7_spacingCommand ∈ TT := tt_m (List.mem_of_getElem? (i := 31) (by decide +kernel)) rfl
theorem ks_X7_marginCommand : Cond.selects RX7 yX7_marginCommand yX7_marginCommand ∈ TT := tt_m (List.mem_of_getElem? (i := 32) (by decide +kernel)) rfl
theorem ks_X7_setLeft : Cond.selects RX7 yX7_setLeft yX7_setLeft ∈ TT := tt_m (List.mem_of_getElem? (i := 33) (by decide +kernel)) rfl
theorem ks_X7_setRight : Cond.selects RX7 yX7_setRight yX7_setRight ∈ TT := tt_m (List.mem_of_getElem? (i := 34) (by decide +kernel)) rfl
theorem ks_X7_cursorCommand : Cond.selects RX7 yX7_cursorCommand yX7_cursorCommand ∈ TT := tt_m (List.mem_of_getElem? (i := 35) (by decide +kernel)) rfl
theorem ks_X7_goAcross : Cond.selects RX7 yX7_goAcross yX7_goAcross ∈ TT := tt_m (List.mem_of_getElem? (i := 36) (by decide +kernel)) rfl
theorem ks_X7_goDown : Cond.selects RX7 yX7_goDown yX7_goDown ∈ TT := tt_m (List.mem_of_getElem? (i := 37) (by decide +kernel)) rfl
theorem ks_X7_wrapCommand : Cond.selects RX7 yX7_wrapCommand yX7_wrapCommand ∈ TT := tt_m (List.mem_of_getElem? (i := 38) (by decide +kernel)) rfl
theorem ks_X7_stackCommand : Cond.selects RX7 yX7_stackCommand yX7_stackCommand ∈ TT := tt_m (List.mem_of_getElem? (i := 39) (by decide +kernel)) rfl
theorem ks_X7_dotCommand : Cond.selects RX7 yX7_dotCommand yX7_dotCommand ∈ TT := tt_m (List.mem_of_getElem? (i := 40) (by decide +kernel)) rfl
theorem ks_X8_reset : Cond.selects RX8 yX8_reset yX8_reset ∈ TT := tt_m (List.mem_of_getElem? (i := 42) (by decide +kernel)) rfl
theorem ks_X8_defaults : Cond.selects RX8 yX8_defaults yX8_defaults ∈ TT := tt_m (List.mem_of_getElem? (i := 43) (by decide +kernel)) rfl
theorem ks_X8_measure : Cond.selects RX8 yX8_measure yX8_measure ∈ TT := tt_m (List.mem_of_getElem? (i := 44) (by decide +kernel)) rfl
theorem ks_X8_setX : Cond.selects RX8 yX8_setX yX8_setX ∈ TT := tt_m (List.mem_of_getElem? (i := 45) (by decide +kernel)) rfl
theorem ks_X8_home : Cond.selects RX8 yX8_home yX8_home ∈ TT := tt_m (List.mem_of_getElem? (i := 46) (by decide +kernel)) rfl
theorem ks_X8_setY : Cond.selects RX8 yX8_setY yX8_setY ∈ TT := tt_m (List.mem_of_getElem? (i := 47) (by decide +kernel)) rfl
theorem ks_X8_comes : Cond.selects RX8 yX8_comes yX8_comes ∈ TT := tt_m (List.mem_of_getElem? (i := 48) (by decide +kernel)) rfl
theorem ks_X8_datum : Cond.selects RX8 yX8_datum yX8_datum ∈ TT := tt_m (List.mem_of_getElem? (i := 49) (by decide +kernel)) rfl
theorem ks_X8_character : Cond.selects RX8 yX8_character yX8_character ∈ TT := tt_m (List.mem_of_getElem? (i := 50) (by decide +kernel)) rfl
theorem ks_X8_carriageReturn : Cond.selects RX8 yX8_carriageReturn yX8_carriageReturn ∈ TT := tt_m (List.mem_of_getElem? (i := 51) (by decide +kernel)) rfl
theorem ks_X8_lineFeed : Cond.selects RX8 yX8_lineFeed yX8_lineFeed ∈ TT := tt_m (List.mem_of_getElem? (i := 52) (by decide +kernel)) rfl
theorem ks_X8_eject : Cond.selects RX8 yX8_eject yX8_eject ∈ TT := tt_m (List.mem_of_getElem? (i := 53) (by decide +kernel)) rfl
theorem ks_X8_behindEsc : Cond.selects RX8 yX8_behindEsc yX8_behindEsc ∈ TT := tt_m (List.mem_of_getElem? (i := 54) (by decide +kernel)) rfl
theorem ks_X8_shortSequence : Cond.selects RX8 yX8_shortSequence yX8_shortSequence ∈ TT := tt_m (List.mem_of_getElem? (i := 55) (by decide +kernel)) rfl
theorem ks_X8_ejectIfDue : Cond.selects RX8 yX8_ejectIfDue yX8_ejectIfDue ∈ TT := tt_m (List.mem_of_getElem? (i := 56) (by decide +kernel)) rfl
theorem ks_X8_beginField : Cond.selects RX8 yX8_beginField yX8_beginField ∈ TT := tt_m (List.mem_of_getElem? (i := 57) (by decide +kernel)) rfl
theorem ks_X8_field : Cond.selects RX8 yX8_field yX8_field ∈ TT := tt_m (List.mem_of_getElem? (i := 58) (by decide +kernel)) rfl
theorem ks_X8_command : Cond.selects RX8 yX8_command yX8_command ∈ TT := tt_m (List.mem_of_getElem? (i := 59) (by decide +kernel)) rfl
theorem ks_X8_value : Cond.selects RX8 yX8_value yX8_value ∈ TT := tt_m (List.mem_of_getElem? (i := 60) (by decide +kernel)) rfl
theorem ks_X8_known : Cond.selects RX8 yX8_known yX8_known ∈ TT := tt_m (List.mem_of_getElem? (i := 61) (by decide +kernel)) rfl
theorem ks_X8_paging : Cond.selects RX8 yX8_paging yX8_paging ∈ TT := tt_m (List.mem_of_getElem? (i := 62) (by decide +kernel)) rfl
theorem ks_X8_is : Cond.selects RX8 yX8_is yX8_is ∈ TT := tt_m (List.mem_of_getElem? (i := 63) (by decide +kernel)) rfl
theorem ks_X8_stack : Cond.selects RX8 yX8_stack yX8_stack ∈ TT := tt_m (List.mem_of_getElem? (i := 64) (by decide +kernel)) rfl
theorem ks_X8_cursor : Cond.selects RX8 yX8_cursor yX8_cursor ∈ TT := tt_m (List.mem_of_getElem? (i := 65) (by decide +kernel)) rfl
theorem ks_X8_handOn : Cond.selects RX8 yX8_handOn yX8_handOn ∈ TT := tt_m (List.mem_of_getElem? (i := 66) (by decide +kernel)) rfl
theorem ks_X8_control : Cond.selects RX8 yX8_control yX8_control ∈ TT := tt_m (List.mem_of_getElem? (i := 67) (by decide +kernel)) rfl
theorem ks_X8_tab : Cond.selects RX8 yX8_tab yX8_tab ∈ TT := tt_m (List.mem_of_getElem? (i := 68) (by decide +kernel)) rfl
theorem ki_L : Cond.initialized RL ∈ TT := tt_m (List.mem_of_getElem? (i := 69) (by decide +kernel)) rfl
theorem ki_X7 : Cond.initialized RX7 ∈ TT := tt_m (List.mem_of_getElem? (i := 70) (by decide +kernel)) rfl
theorem ki_X5 : Cond.initialized RX5 ∈ TT := tt_m (List.mem_of_getElem? (i := 71) (by decide +kernel)) rfl
theorem ki_X4 : Cond.initialized RX4 ∈ TT := tt_m (List.mem_of_getElem? (i := 72) (by decide +kernel)) rfl
theorem ki_X1 : Cond.initialized RX1 ∈ TT := tt_m (List.mem_of_getElem? (i := 73) (by decide +kernel)) rfl
theorem ki_X6 : Cond.initialized RX6 ∈ TT := tt_m (List.mem_of_getElem? (i := 74) (by decide +kernel)) rfl
theorem ki_X0 : Cond.initialized RX0 ∈ TT := tt_m (List.mem_of_getElem? (i := 75) (by decide +kernel)) rfl
theorem ki_X3 : Cond.initialized RX3 ∈ TT := tt_m (List.mem_of_getElem? (i := 76) (by decide +kernel)) rfl
theorem ki_X2 : Cond.initialized RX2 ∈ TT := tt_m (List.mem_of_getElem? (i := 77) (by decide +kernel)) rfl
theorem ki_J7 : Cond.initialized RJ7 ∈ TT := tt_m (List.mem_of_getElem? (i := 78) (by decide +kernel)) rfl
theorem ki_X8 : Cond.initialized RX8 ∈ TT := tt_m (List.mem_of_getElem? (i := 79) (by decide +kernel)) rfl
theorem ki_J9 : Cond.initialized RJ9 ∈ TT := tt_m (List.mem_of_getElem? (i := 80) (by decide +kernel)) rfl
theorem ki_J10 : Cond.initialized RJ10 ∈ TT := tt_m (List.mem_of_getElem? (i := 81) (by decide +kernel)) rfl
theorem ki_Throwable : Cond.initialized "java/lang/Throwable" ∈ TT := tt_m (List.mem_of_getElem? (i := 82) (by decide +kernel)) rfl
theorem ki_Exception : Cond.initialized "java/lang/Exception" ∈ TT := tt_m (List.mem_of_getElem? (i := 83) (by decide +kernel)) rfl
theorem ki_RuntimeException : Cond.initialized "java/lang/RuntimeException" ∈ TT := tt_m (List.mem_of_getElem? (i := 84) (by decide +kernel)) rfl
theorem ki_IndexOutOfBoundsException : Cond.initialized "java/lang/IndexOutOfBoundsException" ∈ TT := tt_m (List.mem_of_getElem? (i := 85) (by decide +kernel)) rfl
theorem ki_IllegalStateException : Cond.initialized "java/lang/IllegalStateException" ∈ TT := tt_m (List.mem_of_getElem? (i := 86) (by decide +kernel)) rfl
theorem kk_L_8 : Cond.classLink RL 8 RX7 ∈ TT := tt_m (List.mem_of_getElem? (i := 87) (by decide +kernel)) rfl
theorem kN_X7 : Cond.instantiable RX7 10 ∈ TT := tt_m (List.mem_of_getElem? (i := 88) (by decide +kernel)) rfl
theorem km_L_32 : Cond.methodLink RL 32 yX7_init ∈ TT := tt_m (List.mem_of_getElem? (i := 89) (by decide +kernel)) rfl
theorem kI_X7_init : Cond.instanceMethod yX7_init ∈ TT := tt_m (List.mem_of_getElem? (i := 90) (by decide +kernel)) rfl
theorem kC_X7_init : Cond.code yX7_init cX7_init 2 none ∈ TT := tt_m (List.mem_of_getElem? (i := 91) (by decide +kernel)) rfl
theorem km_X7_1 : Cond.methodLink RX7 1 (⟨"java/lang/Object", "<init>", "()V"⟩ : MethodName) ∈ TT := tt_m (List.mem_of_getElem? (i := 92) (by decide +kernel)) rfl
theorem kI_Object__init_ : Cond.instanceMethod (⟨"java/lang/Object", "<init>", "()V"⟩ : MethodName) ∈ TT := tt_m (List.mem_of_getElem? (i := 93) (by decide +kernel)) rfl
theorem kk_X7_7 : Cond.classLink RX7 7 RX5 ∈ TT := tt_m (List.mem_of_getElem? (i := 95) (by decide +kernel)) rfl
theorem kN_X5 : Cond.instantiable RX5 13 ∈ TT := tt_m (List.mem_of_getElem? (i := 96) (by decide +kernel)) rfl
theorem kn_X7_9 : Cond.methodLinkNest RX7 9 yX5_init "PageDesk" ∈ lw_tbl := List.mem_of_getElem? (i := 97) (by decide +kernel)
theorem kI_X5_init : Cond.instanceMethod yX5_init ∈ TT := tt_m (List.mem_of_getElem? (i := 98) (by decide +kernel)) rfl
theorem kC_X5_init : Cond.code yX5_init cX5_init 1 none ∈ TT := tt_m (List.mem_of_getElem? (i := 99) (by decide +kernel)) rfl
theorem km_X5_3 : Cond.methodLink RX5 3 (⟨"java/lang/Object", "<init>", "()V"⟩ : MethodName) ∈ TT := tt_m (List.mem_of_getElem? (i := 100) (by decide +kernel)) rfl
theorem kf_X3_31 : Cond.fieldLink RX3 31 "PageDesk$Parser" "family" "I" ∈ TT := tt_m (List.mem_of_getElem? (i := 101) (by decide +kernel)) rfl
theorem kf_X5_18 : Cond.fieldLink RX5 18 "PageDesk$Parser" "family" "I" ∈ TT := tt_m (List.mem_of_getElem? (i := 102) (by decide +kernel)) rfl
theorem kf_X7_271 : Cond.fieldLink RX7 271 "PageDesk$Parser" "family" "I" ∈ TT := tt_m (List.mem_of_getElem? (i := 103) (by decide +kernel)) rfl
theorem kf_X3_37 : Cond.fieldLink RX3 37 "PageDesk$Parser" "group" "I" ∈ TT := tt_m (List.mem_of_getElem? (i := 104) (by decide +kernel)) rfl
theorem kf_X5_21 : Cond.fieldLink RX5 21 "PageDesk$Parser" "group" "I" ∈ TT := tt_m (List.mem_of_getElem? (i := 105) (by decide +kernel)) rfl
theorem kf_X7_274 : Cond.fieldLink RX7 274 "PageDesk$Parser" "group" "I" ∈ TT := tt_m (List.mem_of_getElem? (i := 106) (by decide +kernel)) rfl
theorem kf_X3_41 : Cond.fieldLink RX3 41 "PageDesk$Parser" "value" "I" ∈ TT := tt_m (List.mem_of_getElem? (i := 107) (by decide +kernel)) rfl
theorem kf_X5_80 : Cond.fieldLink RX5 80 "PageDesk$Parser" "value" "I" ∈ TT := tt_m (List.mem_of_getElem? (i := 108) (by decide +kernel)) rfl
theorem kf_X7_266 : Cond.fieldLink RX7 266 "PageDesk$Parser" "value" "I" ∈ TT := tt_m (List.mem_of_getElem? (i := 109) (by decide +kernel)) rfl
theorem kf_X3_45 : Cond.fieldLink RX3 45 "PageDesk$Parser" "end" "I" ∈ TT := tt_m (List.mem_of_getElem? (i := 110) (by decide +kernel)) rfl
theorem kf_X5_24 : Cond.fieldLink RX5 24 "PageDesk$Parser" "end" "I" ∈ TT := tt_m (List.mem_of_getElem? (i := 111) (by decide +kernel)) rfl
theorem kf_X7_306 : Cond.fieldLink RX7 306 "PageDesk$Parser" "end" "I" ∈ TT := tt_m (List.mem_of_getElem? (i := 112) (by decide +kernel)) rfl
theorem kf_X3_49 : Cond.fieldLink RX3 49 "PageDesk$Parser" "signed" "Z" ∈ TT := tt_m (List.mem_of_getElem? (i := 113) (by decide +kernel)) rfl
theorem kf_X5_83 : Cond.fieldLink RX5 83 "PageDesk$Parser" "signed" "Z" ∈ TT := tt_m (List.mem_of_getElem? (i := 114) (by decide +kernel)) rfl
theorem kf_X7_355 : Cond.fieldLink RX7 355 "PageDesk$Parser" "signed" "Z" ∈ TT := tt_m (List.mem_of_getElem? (i := 115) (by decide +kernel)) rfl
theorem kf_X5_15 : Cond.fieldLink RX5 15 "PageDesk$Parser" "dataLeft" "I" ∈ TT := tt_m (List.mem_of_getElem? (i := 116) (by decide +kernel)) rfl
theorem kf_X3_56 : Cond.fieldLink RX3 56 "PageDesk$Parser" "dataLeft" "I" ∈ TT := tt_m (List.mem_of_getElem? (i := 117) (by decide +kernel)) rfl
theorem kf_X5_9 : Cond.fieldLink RX5 9 "PageDesk$Parser" "state" "I" ∈ TT := tt_m (List.mem_of_getElem? (i := 118) (by decide +kernel)) rfl
theorem kf_X5_44 : Cond.fieldLink RX5 44 "PageDesk$Parser" "valueState" "I" ∈ TT := tt_m (List.mem_of_getElem? (i := 119) (by decide +kernel)) rfl
theorem kf_X5_47 : Cond.fieldLink RX5 47 "PageDesk$Parser" "plus" "Z" ∈ TT := tt_m (List.mem_of_getElem? (i := 120) (by decide +kernel)) rfl
theorem kf_X5_51 : Cond.fieldLink RX5 51 "PageDesk$Parser" "minus" "Z" ∈ TT := tt_m (List.mem_of_getElem? (i := 121) (by decide +kernel)) rfl
theorem kf_X5_54 : Cond.fieldLink RX5 54 "PageDesk$Parser" "whole" "I" ∈ TT := tt_m (List.mem_of_getElem? (i := 122) (by decide +kernel)) rfl
theorem kf_X5_57 : Cond.fieldLink RX5 57 "PageDesk$Parser" "fraction" "I" ∈ TT := tt_m (List.mem_of_getElem? (i := 123) (by decide +kernel)) rfl
theorem kf_X5_60 : Cond.fieldLink RX5 60 "PageDesk$Parser" "nextDigitWorth" "I" ∈ TT := tt_m (List.mem_of_getElem? (i := 124) (by decide +kernel)) rfl
theorem kk_X7_16 : Cond.classLink RX7 16 RX4 ∈ TT := tt_m (List.mem_of_getElem? (i := 152) (by decide +kernel)) rfl
theorem kN_X4 : Cond.instantiable RX4 5 ∈ TT := tt_m (List.mem_of_getElem? (i := 153) (by decide +kernel)) rfl
theorem kn_X7_18 : Cond.methodLinkNest RX7 18 yX4_init "PageDesk" ∈ lw_tbl := List.mem_of_getElem? (i := 154) (by decide +kernel)
theorem kI_X4_init : Cond.instanceMethod yX4_init ∈ TT := tt_m (List.mem_of_getElem? (i := 155) (by decide +kernel)) rfl
theorem kC_X4_init : Cond.code yX4_init cX4_init 1 none ∈ TT := tt_m (List.mem_of_getElem? (i := 156) (by decide +kernel)) rfl
theorem km_X4_1 : Cond.methodLink RX4 1 (⟨"java/lang/Object", "<init>", "()V"⟩ : MethodName) ∈ TT := tt_m (List.mem_of_getElem? (i := 157) (by decide +kernel)) rfl
theorem kf_X0_23 : Cond.fieldLink RX0 23 "PageDesk$Paper" "size" "I" ∈ TT := tt_m (List.mem_of_getElem? (i := 158) (by decide +kernel)) rfl
theorem kf_X4_15 : Cond.fieldLink RX4 15 "PageDesk$Paper" "size" "I" ∈ TT := tt_m (List.mem_of_getElem? (i := 159) (by decide +kernel)) rfl
theorem kf_X7_166 : Cond.fieldLink RX7 166 "PageDesk$Paper" "size" "I" ∈ TT := tt_m (List.mem_of_getElem? (i := 160) (by decide +kernel)) rfl
theorem kf_X0_28 : Cond.fieldLink RX0 28 "PageDesk$Paper" "orientation" "I" ∈ TT := tt_m (List.mem_of_getElem? (i := 161) (by decide +kernel)) rfl
theorem kf_X4_21 : Cond.fieldLink RX4 21 "PageDesk$Paper" "orientation" "I" ∈ TT := tt_m (List.mem_of_getElem? (i := 162) (by decide +kernel)) rfl
theorem kf_X7_169 : Cond.fieldLink RX7 169 "PageDesk$Paper" "orientation" "I" ∈ TT := tt_m (List.mem_of_getElem? (i := 163) (by decide +kernel)) rfl
theorem kf_X0_31 : Cond.fieldLink RX0 31 "PageDesk$Paper" "copies" "I" ∈ TT := tt_m (List.mem_of_getElem? (i := 164) (by decide +kernel)) rfl
theorem kf_X7_181 : Cond.fieldLink RX7 181 "PageDesk$Paper" "copies" "I" ∈ TT := tt_m (List.mem_of_getElem? (i := 165) (by decide +kernel)) rfl
theorem kf_X4_31 : Cond.fieldLink RX4 31 "PageDesk$Paper" "width" "I" ∈ TT := tt_m (List.mem_of_getElem? (i := 166) (by decide +kernel)) rfl
theorem kf_X7_95 : Cond.fieldLink RX7 95 "PageDesk$Paper" "width" "I" ∈ TT := tt_m (List.mem_of_getElem? (i := 167) (by decide +kernel)) rfl
theorem kf_X4_34 : Cond.fieldLink RX4 34 "PageDesk$Paper" "height" "I" ∈ TT := tt_m (List.mem_of_getElem? (i := 168) (by decide +kernel)) rfl
theorem kf_X7_163 : Cond.fieldLink RX7 163 "PageDesk$Paper" "height" "I" ∈ TT := tt_m (List.mem_of_getElem? (i := 169) (by decide +kernel)) rfl
theorem kk_X7_23 : Cond.classLink RX7 23 RX1 ∈ TT := tt_m (List.mem_of_getElem? (i := 181) (by decide +kernel)) rfl
theorem kN_X1 : Cond.instantiable RX1 15 ∈ TT := tt_m (List.mem_of_getElem? (i := 182) (by decide +kernel)) rfl
theorem kn_X7_25 : Cond.methodLinkNest RX7 25 yX1_init "PageDesk" ∈ lw_tbl := List.mem_of_getElem? (i := 183) (by decide +kernel)
theorem kI_X1_init : Cond.instanceMethod yX1_init ∈ TT := tt_m (List.mem_of_getElem? (i := 184) (by decide +kernel)) rfl
theorem kC_X1_init : Cond.code yX1_init cX1_init 1 none ∈ TT := tt_m (List.mem_of_getElem? (i := 185) (by decide +kernel)) rfl
theorem km_X1_1 : Cond.methodLink RX1 1 (⟨"java/lang/Object", "<init>", "()V"⟩ : MethodName) ∈ TT := tt_m (List.mem_of_getElem? (i := 186) (by decide +kernel)) rfl
theorem kf_X1_16 : Cond.fieldLink RX1 16 "PageDesk$Layout" "top" "I" ∈ TT := tt_m (List.mem_of_getElem? (i := 187) (by decide +kernel)) rfl
theorem kf_X7_151 : Cond.fieldLink RX7 151 "PageDesk$Layout" "top" "I" ∈ TT := tt_m (List.mem_of_getElem? (i := 188) (by decide +kernel)) rfl
theorem kf_X1_32 : Cond.fieldLink RX1 32 "PageDesk$Layout" "length" "I" ∈ TT := tt_m (List.mem_of_getElem? (i := 189) (by decide +kernel)) rfl
theorem kf_X7_154 : Cond.fieldLink RX7 154 "PageDesk$Layout" "length" "I" ∈ TT := tt_m (List.mem_of_getElem? (i := 190) (by decide +kernel)) rfl
theorem kf_X1_35 : Cond.fieldLink RX1 35 "PageDesk$Layout" "left" "I" ∈ TT := tt_m (List.mem_of_getElem? (i := 191) (by decide +kernel)) rfl
theorem kf_X7_91 : Cond.fieldLink RX7 91 "PageDesk$Layout" "left" "I" ∈ TT := tt_m (List.mem_of_getElem? (i := 192) (by decide +kernel)) rfl
theorem kf_X1_38 : Cond.fieldLink RX1 38 "PageDesk$Layout" "right" "I" ∈ TT := tt_m (List.mem_of_getElem? (i := 193) (by decide +kernel)) rfl
theorem kf_X7_102 : Cond.fieldLink RX7 102 "PageDesk$Layout" "right" "I" ∈ TT := tt_m (List.mem_of_getElem? (i := 194) (by decide +kernel)) rfl
theorem kf_X1_41 : Cond.fieldLink RX1 41 "PageDesk$Layout" "stepAcross" "I" ∈ TT := tt_m (List.mem_of_getElem? (i := 195) (by decide +kernel)) rfl
theorem kf_X7_157 : Cond.fieldLink RX7 157 "PageDesk$Layout" "stepAcross" "I" ∈ TT := tt_m (List.mem_of_getElem? (i := 196) (by decide +kernel)) rfl
theorem kf_X1_20 : Cond.fieldLink RX1 20 "PageDesk$Layout" "stepDown" "I" ∈ TT := tt_m (List.mem_of_getElem? (i := 197) (by decide +kernel)) rfl
theorem kf_X7_160 : Cond.fieldLink RX7 160 "PageDesk$Layout" "stepDown" "I" ∈ TT := tt_m (List.mem_of_getElem? (i := 198) (by decide +kernel)) rfl
theorem kf_X1_26 : Cond.fieldLink RX1 26 "PageDesk$Layout" "x" "I" ∈ TT := tt_m (List.mem_of_getElem? (i := 199) (by decide +kernel)) rfl
theorem kf_X7_105 : Cond.fieldLink RX7 105 "PageDesk$Layout" "x" "I" ∈ TT := tt_m (List.mem_of_getElem? (i := 200) (by decide +kernel)) rfl
theorem kf_X1_29 : Cond.fieldLink RX1 29 "PageDesk$Layout" "y" "I" ∈ TT := tt_m (List.mem_of_getElem? (i := 201) (by decide +kernel)) rfl
theorem kf_X7_108 : Cond.fieldLink RX7 108 "PageDesk$Layout" "y" "I" ∈ TT := tt_m (List.mem_of_getElem? (i := 202) (by decide +kernel)) rfl
theorem kf_X1_44 : Cond.fieldLink RX1 44 "PageDesk$Layout" "wrap" "Z" ∈ TT := tt_m (List.mem_of_getElem? (i := 203) (by decide +kernel)) rfl
theorem kf_X7_172 : Cond.fieldLink RX7 172 "PageDesk$Layout" "wrap" "Z" ∈ TT := tt_m (List.mem_of_getElem? (i := 204) (by decide +kernel)) rfl
theorem kf_X1_48 : Cond.fieldLink RX1 48 "PageDesk$Layout" "skip" "Z" ∈ TT := tt_m (List.mem_of_getElem? (i := 205) (by decide +kernel)) rfl
theorem kf_X7_175 : Cond.fieldLink RX7 175 "PageDesk$Layout" "skip" "Z" ∈ TT := tt_m (List.mem_of_getElem? (i := 206) (by decide +kernel)) rfl
theorem kf_X1_51 : Cond.fieldLink RX1 51 "PageDesk$Layout" "lineEnd" "I" ∈ TT := tt_m (List.mem_of_getElem? (i := 207) (by decide +kernel)) rfl
theorem kf_X7_178 : Cond.fieldLink RX7 178 "PageDesk$Layout" "lineEnd" "I" ∈ TT := tt_m (List.mem_of_getElem? (i := 208) (by decide +kernel)) rfl
theorem kf_X1_54 : Cond.fieldLink RX1 54 "PageDesk$Layout" "font" "I" ∈ TT := tt_m (List.mem_of_getElem? (i := 209) (by decide +kernel)) rfl
theorem kf_X7_184 : Cond.fieldLink RX7 184 "PageDesk$Layout" "font" "I" ∈ TT := tt_m (List.mem_of_getElem? (i := 210) (by decide +kernel)) rfl
theorem kf_X1_23 : Cond.fieldLink RX1 23 "PageDesk$Layout" "depth" "I" ∈ TT := tt_m (List.mem_of_getElem? (i := 211) (by decide +kernel)) rfl
theorem kf_X7_142 : Cond.fieldLink RX7 142 "PageDesk$Layout" "depth" "I" ∈ TT := tt_m (List.mem_of_getElem? (i := 212) (by decide +kernel)) rfl
theorem kf_X1_9 : Cond.fieldLink RX1 9 "PageDesk$Layout" "stackX" "[I" ∈ TT := tt_m (List.mem_of_getElem? (i := 213) (by decide +kernel)) rfl
theorem kf_X7_148 : Cond.fieldLink RX7 148 "PageDesk$Layout" "stackX" "[I" ∈ TT := tt_m (List.mem_of_getElem? (i := 214) (by decide +kernel)) rfl
theorem kf_X1_13 : Cond.fieldLink RX1 13 "PageDesk$Layout" "stackY" "[I" ∈ TT := tt_m (List.mem_of_getElem? (i := 215) (by decide +kernel)) rfl
theorem kf_X7_145 : Cond.fieldLink RX7 145 "PageDesk$Layout" "stackY" "[I" ∈ TT := tt_m (List.mem_of_getElem? (i := 216) (by decide +kernel)) rfl
theorem ka_int : Cond.arrayClass .int ∈ TT := tt_m (List.mem_of_getElem? (i := 248) (by decide +kernel)) rfl
theorem ko_X1 : Cond.arrayOver (.object "PageDesk$Layout") ∈ lw_tbl := List.mem_of_getElem? (i := 249) (by decide +kernel)
theorem kk_X7_38 : Cond.classLink RX7 38 RX6 ∈ TT := tt_m (List.mem_of_getElem? (i := 250) (by decide +kernel)) rfl
theorem kN_X6 : Cond.instantiable RX6 4 ∈ TT := tt_m (List.mem_of_getElem? (i := 251) (by decide +kernel)) rfl
theorem kn_X7_40 : Cond.methodLinkNest RX7 40 yX6_init "PageDesk" ∈ lw_tbl := List.mem_of_getElem? (i := 252) (by decide +kernel)
theorem kI_X6_init : Cond.instanceMethod yX6_init ∈ TT := tt_m (List.mem_of_getElem? (i := 253) (by decide +kernel)) rfl
theorem kC_X6_init : Cond.code yX6_init cX6_init 1 none ∈ TT := tt_m (List.mem_of_getElem? (i := 254) (by decide +kernel)) rfl
theorem km_X6_1 : Cond.methodLink RX6 1 (⟨"java/lang/Object", "<init>", "()V"⟩ : MethodName) ∈ TT := tt_m (List.mem_of_getElem? (i := 255) (by decide +kernel)) rfl
theorem kf_X6_9 : Cond.fieldLink RX6 9 "PageDesk$Sheet" "glyphs" "[J" ∈ TT := tt_m (List.mem_of_getElem? (i := 256) (by decide +kernel)) rfl
theorem kf_X6_17 : Cond.fieldLink RX6 17 "PageDesk$Sheet" "count" "I" ∈ TT := tt_m (List.mem_of_getElem? (i := 257) (by decide +kernel)) rfl
theorem kf_X7_111 : Cond.fieldLink RX7 111 "PageDesk$Sheet" "count" "I" ∈ TT := tt_m (List.mem_of_getElem? (i := 258) (by decide +kernel)) rfl
theorem kf_X6_13 : Cond.fieldLink RX6 13 "PageDesk$Sheet" "came" "I" ∈ TT := tt_m (List.mem_of_getElem? (i := 259) (by decide +kernel)) rfl
theorem kf_X7_232 : Cond.fieldLink RX7 232 "PageDesk$Sheet" "came" "I" ∈ TT := tt_m (List.mem_of_getElem? (i := 260) (by decide +kernel)) rfl
theorem kf_X6_20 : Cond.fieldLink RX6 20 "PageDesk$Sheet" "toldDue" "Z" ∈ TT := tt_m (List.mem_of_getElem? (i := 261) (by decide +kernel)) rfl
theorem kf_X7_76 : Cond.fieldLink RX7 76 "PageDesk$Sheet" "toldDue" "Z" ∈ TT := tt_m (List.mem_of_getElem? (i := 262) (by decide +kernel)) rfl
theorem ka_boolean : Cond.arrayClass .boolean ∈ TT := tt_m (List.mem_of_getElem? (i := 272) (by decide +kernel)) rfl
theorem ka_long : Cond.arrayClass .long ∈ TT := tt_m (List.mem_of_getElem? (i := 273) (by decide +kernel)) rfl
theorem kk_X7_45 : Cond.classLink RX7 45 RX0 ∈ TT := tt_m (List.mem_of_getElem? (i := 274) (by decide +kernel)) rfl
theorem kN_X0 : Cond.instantiable RX0 2 ∈ TT := tt_m (List.mem_of_getElem? (i := 275) (by decide +kernel)) rfl
theorem kn_X7_47 : Cond.methodLinkNest RX7 47 yX0_init "PageDesk" ∈ lw_tbl := List.mem_of_getElem? (i := 276) (by decide +kernel)
theorem kI_X0_init : Cond.instanceMethod yX0_init ∈ TT := tt_m (List.mem_of_getElem? (i := 277) (by decide +kernel)) rfl
theorem kC_X0_init : Cond.code yX0_init cX0_init 1 none ∈ TT := tt_m (List.mem_of_getElem? (i := 278) (by decide +kernel)) rfl
theorem km_X0_1 : Cond.methodLink RX0 1 (⟨"java/lang/Object", "<init>", "()V"⟩ : MethodName) ∈ TT := tt_m (List.mem_of_getElem? (i := 279) (by decide +kernel)) rfl
theorem kf_X0_9 : Cond.fieldLink RX0 9 "PageDesk$DonePages" "parts" "[I" ∈ TT := tt_m (List.mem_of_getElem? (i := 280) (by decide +kernel)) rfl
theorem kf_X0_13 : Cond.fieldLink RX0 13 "PageDesk$DonePages" "count" "I" ∈ TT := tt_m (List.mem_of_getElem? (i := 281) (by decide +kernel)) rfl
theorem kf_X7_190 : Cond.fieldLink RX7 190 "PageDesk$DonePages" "count" "I" ∈ TT := tt_m (List.mem_of_getElem? (i := 282) (by decide +kernel)) rfl
theorem kk_X7_52 : Cond.classLink RX7 52 RX3 ∈ TT := tt_m (List.mem_of_getElem? (i := 288) (by decide +kernel)) rfl
theorem kN_X3 : Cond.instantiable RX3 7 ∈ TT := tt_m (List.mem_of_getElem? (i := 289) (by decide +kernel)) rfl
theorem km_X7_54 : Cond.methodLink RX7 54 yX3_init ∈ TT := tt_m (List.mem_of_getElem? (i := 290) (by decide +kernel)) rfl
theorem kI_X3_init : Cond.instanceMethod yX3_init ∈ TT := tt_m (List.mem_of_getElem? (i := 291) (by decide +kernel)) rfl
theorem kC_X3_init : Cond.code yX3_init cX3_init 2 none ∈ TT := tt_m (List.mem_of_getElem? (i := 292) (by decide +kernel)) rfl
theorem km_X3_1 : Cond.methodLink RX3 1 (⟨"java/lang/Object", "<init>", "()V"⟩ : MethodName) ∈ TT := tt_m (List.mem_of_getElem? (i := 293) (by decide +kernel)) rfl
theorem kk_X3_9 : Cond.classLink RX3 9 RX2 ∈ TT := tt_m (List.mem_of_getElem? (i := 294) (by decide +kernel)) rfl
theorem ko_X2 : Cond.arrayOver (.object "PageDesk$Other") ∈ lw_tbl := List.mem_of_getElem? (i := 295) (by decide +kernel)
theorem kN_X2 : Cond.instantiable RX2 7 ∈ TT := tt_m (List.mem_of_getElem? (i := 296) (by decide +kernel)) rfl
theorem kn_X3_19 : Cond.methodLinkNest RX3 19 yX2_init "PageDesk" ∈ lw_tbl := List.mem_of_getElem? (i := 297) (by decide +kernel)
theorem kI_X2_init : Cond.instanceMethod yX2_init ∈ TT := tt_m (List.mem_of_getElem? (i := 298) (by decide +kernel)) rfl
theorem kC_X2_init : Cond.code yX2_init cX2_init 1 none ∈ TT := tt_m (List.mem_of_getElem? (i := 299) (by decide +kernel)) rfl
theorem km_X2_1 : Cond.methodLink RX2 1 (⟨"java/lang/Object", "<init>", "()V"⟩ : MethodName) ∈ TT := tt_m (List.mem_of_getElem? (i := 300) (by decide +kernel)) rfl
theorem kf_X3_36 : Cond.fieldLink RX3 36 "PageDesk$Other" "family" "I" ∈ TT := tt_m (List.mem_of_getElem? (i := 301) (by decide +kernel)) rfl
theorem kf_X3_40 : Cond.fieldLink RX3 40 "PageDesk$Other" "group" "I" ∈ TT := tt_m (List.mem_of_getElem? (i := 302) (by decide +kernel)) rfl
theorem kf_X3_44 : Cond.fieldLink RX3 44 "PageDesk$Other" "value" "I" ∈ TT := tt_m (List.mem_of_getElem? (i := 303) (by decide +kernel)) rfl
theorem kf_X3_48 : Cond.fieldLink RX3 48 "PageDesk$Other" "end" "I" ∈ TT := tt_m (List.mem_of_getElem? (i := 304) (by decide +kernel)) rfl
theorem kf_X3_52 : Cond.fieldLink RX3 52 "PageDesk$Other" "signed" "Z" ∈ TT := tt_m (List.mem_of_getElem? (i := 305) (by decide +kernel)) rfl
theorem kf_X3_53 : Cond.fieldLink RX3 53 "PageDesk$Other" "dataStored" "I" ∈ TT := tt_m (List.mem_of_getElem? (i := 306) (by decide +kernel)) rfl
theorem kf_X3_59 : Cond.fieldLink RX3 59 "PageDesk$Other" "dataToCome" "I" ∈ TT := tt_m (List.mem_of_getElem? (i := 307) (by decide +kernel)) rfl
theorem ka_byte : Cond.arrayClass .byte ∈ TT := tt_m (List.mem_of_getElem? (i := 323) (by decide +kernel)) rfl
theorem kf_X3_11 : Cond.fieldLink RX3 11 "PageDesk$OtherQueue" "row" "[LPageDesk$Other;" ∈ TT := tt_m (List.mem_of_getElem? (i := 324) (by decide +kernel)) rfl
theorem kf_X3_15 : Cond.fieldLink RX3 15 "PageDesk$OtherQueue" "store" "[B" ∈ TT := tt_m (List.mem_of_getElem? (i := 325) (by decide +kernel)) rfl
theorem kf_X3_20 : Cond.fieldLink RX3 20 "PageDesk$OtherQueue" "count" "I" ∈ TT := tt_m (List.mem_of_getElem? (i := 326) (by decide +kernel)) rfl
theorem kf_X7_126 : Cond.fieldLink RX7 126 "PageDesk$OtherQueue" "count" "I" ∈ TT := tt_m (List.mem_of_getElem? (i := 327) (by decide +kernel)) rfl
theorem kf_X3_28 : Cond.fieldLink RX3 28 "PageDesk$OtherQueue" "first" "I" ∈ TT := tt_m (List.mem_of_getElem? (i := 328) (by decide +kernel)) rfl
theorem kf_X3_65 : Cond.fieldLink RX3 65 "PageDesk$OtherQueue" "storeStart" "I" ∈ TT := tt_m (List.mem_of_getElem? (i := 329) (by decide +kernel)) rfl
theorem kf_X3_62 : Cond.fieldLink RX3 62 "PageDesk$OtherQueue" "stored" "I" ∈ TT := tt_m (List.mem_of_getElem? (i := 330) (by decide +kernel)) rfl
theorem kf_X3_24 : Cond.fieldLink RX3 24 "PageDesk$OtherQueue" "latestIsLost" "Z" ∈ TT := tt_m (List.mem_of_getElem? (i := 331) (by decide +kernel)) rfl
theorem km_X7_63 : Cond.methodLink RX7 63 yJ7_fill_53178 ∈ TT := tt_m (List.mem_of_getElem? (i := 347) (by decide +kernel)) rfl
theorem kS_J7_fill_53178 : Cond.static yJ7_fill_53178 ∈ TT := tt_m (List.mem_of_getElem? (i := 348) (by decide +kernel)) rfl
theorem kC_J7_fill_53178 : Cond.code yJ7_fill_53178 cJ7_fill_53178 4 none ∈ TT := tt_m (List.mem_of_getElem? (i := 349) (by decide +kernel)) rfl
theorem km_X7_69 : Cond.methodLink RX7 69 yX7_reset ∈ TT := tt_m (List.mem_of_getElem? (i := 350) (by decide +kernel)) rfl
theorem kI_X7_reset : Cond.instanceMethod yX7_reset ∈ TT := tt_m (List.mem_of_getElem? (i := 352) (by decide +kernel)) rfl
theorem kC_X7_reset : Cond.code yX7_reset cX7_reset 1 none ∈ TT := tt_m (List.mem_of_getElem? (i := 353) (by decide +kernel)) rfl
theorem km_X7_218 : Cond.methodLink RX7 218 yX4_choose ∈ TT := tt_m (List.mem_of_getElem? (i := 354) (by decide +kernel)) rfl
theorem kI_X4_choose : Cond.instanceMethod yX4_choose ∈ TT := tt_m (List.mem_of_getElem? (i := 355) (by decide +kernel)) rfl
theorem ks_X4_choose : Cond.selects RX4 yX4_choose yX4_choose ∈ TT := tt_m (List.mem_of_getElem? (i := 356) (by decide +kernel)) rfl
theorem kC_X4_choose : Cond.code yX4_choose cX4_choose 4 none ∈ TT := tt_m (List.mem_of_getElem? (i := 357) (by decide +kernel)) rfl
theorem km_X4_24 : Cond.methodLink RX4 24 yX4_longSide ∈ TT := tt_m (List.mem_of_getElem? (i := 358) (by decide +kernel)) rfl
theorem kI_X4_longSide : Cond.instanceMethod yX4_longSide ∈ TT := tt_m (List.mem_of_getElem? (i := 360) (by decide +kernel)) rfl
theorem kC_X4_longSide : Cond.code yX4_longSide cX4_longSide 1 (some .int) ∈ TT := tt_m (List.mem_of_getElem? (i := 361) (by decide +kernel)) rfl
theorem kc_X4_41 : Cond.constant RX4 41 (75600) ∈ TT := tt_m (List.mem_of_getElem? (i := 362) (by decide +kernel)) rfl
theorem kc_X4_42 : Cond.constant RX4 42 (100800) ∈ TT := tt_m (List.mem_of_getElem? (i := 363) (by decide +kernel)) rfl
theorem kc_X4_43 : Cond.constant RX4 43 (122400) ∈ TT := tt_m (List.mem_of_getElem? (i := 364) (by decide +kernel)) rfl
theorem kc_X4_44 : Cond.constant RX4 44 (84189) ∈ TT := tt_m (List.mem_of_getElem? (i := 365) (by decide +kernel)) rfl
theorem kc_X4_38 : Cond.constant RX4 38 (79200) ∈ TT := tt_m (List.mem_of_getElem? (i := 366) (by decide +kernel)) rfl
theorem km_X4_28 : Cond.methodLink RX4 28 yX4_shortSide ∈ TT := tt_m (List.mem_of_getElem? (i := 367) (by decide +kernel)) rfl
theorem kI_X4_shortSide : Cond.instanceMethod yX4_shortSide ∈ TT := tt_m (List.mem_of_getElem? (i := 369) (by decide +kernel)) rfl
theorem kC_X4_shortSide : Cond.code yX4_shortSide cX4_shortSide 1 (some .int) ∈ TT := tt_m (List.mem_of_getElem? (i := 370) (by decide +kernel)) rfl
theorem kc_X4_37 : Cond.constant RX4 37 (52200) ∈ TT := tt_m (List.mem_of_getElem? (i := 371) (by decide +kernel)) rfl
theorem kc_X4_39 : Cond.constant RX4 39 (59528) ∈ TT := tt_m (List.mem_of_getElem? (i := 372) (by decide +kernel)) rfl
theorem kc_X4_40 : Cond.constant RX4 40 (61200) ∈ TT := tt_m (List.mem_of_getElem? (i := 373) (by decide +kernel)) rfl
theorem km_X7_222 : Cond.methodLink RX7 222 yX7_setDefaults ∈ TT := tt_m (List.mem_of_getElem? (i := 374) (by decide +kernel)) rfl
theorem kI_X7_setDefaults : Cond.instanceMethod yX7_setDefaults ∈ TT := tt_m (List.mem_of_getElem? (i := 376) (by decide +kernel)) rfl
theorem kC_X7_setDefaults : Cond.code yX7_setDefaults cX7_setDefaults 1 none ∈ TT := tt_m (List.mem_of_getElem? (i := 377) (by decide +kernel)) rfl
theorem km_X7_225 : Cond.methodLink RX7 225 yX1_home ∈ TT := tt_m (List.mem_of_getElem? (i := 378) (by decide +kernel)) rfl
theorem kI_X1_home : Cond.instanceMethod yX1_home ∈ TT := tt_m (List.mem_of_getElem? (i := 379) (by decide +kernel)) rfl
theorem ks_X1_home : Cond.selects RX1 yX1_home yX1_home ∈ TT := tt_m (List.mem_of_getElem? (i := 380) (by decide +kernel)) rfl
theorem kC_X1_home : Cond.code yX1_home cX1_home 1 (some .int) ∈ TT := tt_m (List.mem_of_getElem? (i := 381) (by decide +kernel)) rfl
theorem km_X7_84 : Cond.methodLink RX7 84 yX7_setY ∈ TT := tt_m (List.mem_of_getElem? (i := 382) (by decide +kernel)) rfl
theorem kI_X7_setY : Cond.instanceMethod yX7_setY ∈ TT := tt_m (List.mem_of_getElem? (i := 384) (by decide +kernel)) rfl
theorem kC_X7_setY : Cond.code yX7_setY cX7_setY 3 none ∈ TT := tt_m (List.mem_of_getElem? (i := 385) (by decide +kernel)) rfl
theorem km_X7_98 : Cond.methodLink RX7 98 yX7_within ∈ TT := tt_m (List.mem_of_getElem? (i := 386) (by decide +kernel)) rfl
theorem kS_X7_within : Cond.static yX7_within ∈ TT := tt_m (List.mem_of_getElem? (i := 387) (by decide +kernel)) rfl
theorem kC_X7_within : Cond.code yX7_within cX7_within 4 (some .int) ∈ TT := tt_m (List.mem_of_getElem? (i := 388) (by decide +kernel)) rfl
theorem kf_X7_10 : Cond.fieldLink RX7 10 "PageDesk" "parser" "LPageDesk$Parser;" ∈ TT := tt_m (List.mem_of_getElem? (i := 389) (by decide +kernel)) rfl
theorem kf_X7_19 : Cond.fieldLink RX7 19 "PageDesk" "paper" "LPageDesk$Paper;" ∈ TT := tt_m (List.mem_of_getElem? (i := 390) (by decide +kernel)) rfl
theorem kf_X7_26 : Cond.fieldLink RX7 26 "PageDesk" "layout" "LPageDesk$Layout;" ∈ TT := tt_m (List.mem_of_getElem? (i := 391) (by decide +kernel)) rfl
theorem kf_X7_30 : Cond.fieldLink RX7 30 "PageDesk" "slots" "[LPageDesk$Layout;" ∈ TT := tt_m (List.mem_of_getElem? (i := 392) (by decide +kernel)) rfl
theorem kf_X7_34 : Cond.fieldLink RX7 34 "PageDesk" "slotFilled" "[Z" ∈ TT := tt_m (List.mem_of_getElem? (i := 393) (by decide +kernel)) rfl
theorem kf_X7_41 : Cond.fieldLink RX7 41 "PageDesk" "sheet" "LPageDesk$Sheet;" ∈ TT := tt_m (List.mem_of_getElem? (i := 394) (by decide +kernel)) rfl
theorem kf_X7_48 : Cond.fieldLink RX7 48 "PageDesk" "donePages" "LPageDesk$DonePages;" ∈ TT := tt_m (List.mem_of_getElem? (i := 395) (by decide +kernel)) rfl
theorem kf_X7_55 : Cond.fieldLink RX7 55 "PageDesk" "others" "LPageDesk$OtherQueue;" ∈ TT := tt_m (List.mem_of_getElem? (i := 396) (by decide +kernel)) rfl
theorem kf_X7_59 : Cond.fieldLink RX7 59 "PageDesk" "toldSteps" "[I" ∈ TT := tt_m (List.mem_of_getElem? (i := 397) (by decide +kernel)) rfl
theorem kf_X7_191 : Cond.fieldLink RX7 191 "PageDesk" "bytesCome" "I" ∈ TT := tt_m (List.mem_of_getElem? (i := 398) (by decide +kernel)) rfl
theorem km_L_38 : Cond.methodLink RL 38 yX7_feed ∈ TT := tt_m (List.mem_of_getElem? (i := 420) (by decide +kernel)) rfl
theorem kI_X7_feed : Cond.instanceMethod yX7_feed ∈ TT := tt_m (List.mem_of_getElem? (i := 421) (by decide +kernel)) rfl
theorem ks_X7_feed : Cond.selects RX7 yX7_feed yX7_feed ∈ TT := tt_m (List.mem_of_getElem? (i := 422) (by decide +kernel)) rfl
theorem kC_X7_feed : Cond.code yX7_feed cX7_feed 5 (some .boolean) ∈ TT := tt_m (List.mem_of_getElem? (i := 423) (by decide +kernel)) rfl
theorem km_X7_72 : Cond.methodLink RX7 72 yX7_byteComes ∈ TT := tt_m (List.mem_of_getElem? (i := 424) (by decide +kernel)) rfl
theorem kI_X7_byteComes : Cond.instanceMethod yX7_byteComes ∈ TT := tt_m (List.mem_of_getElem? (i := 426) (by decide +kernel)) rfl
theorem kC_X7_byteComes : Cond.code yX7_byteComes cX7_byteComes 2 none ∈ TT := tt_m (List.mem_of_getElem? (i := 427) (by decide +kernel)) rfl
theorem km_X7_200 : Cond.methodLink RX7 200 yX5_accept ∈ TT := tt_m (List.mem_of_getElem? (i := 428) (by decide +kernel)) rfl
theorem kI_X5_accept : Cond.instanceMethod yX5_accept ∈ TT := tt_m (List.mem_of_getElem? (i := 429) (by decide +kernel)) rfl
theorem ks_X5_accept : Cond.selects RX5 yX5_accept yX5_accept ∈ TT := tt_m (List.mem_of_getElem? (i := 430) (by decide +kernel)) rfl
theorem kC_X5_accept : Cond.code yX5_accept cX5_accept 2 (some .int) ∈ TT := tt_m (List.mem_of_getElem? (i := 431) (by decide +kernel)) rfl
theorem km_X5_27 : Cond.methodLink RX5 27 yX5_hasText ∈ TT := tt_m (List.mem_of_getElem? (i := 432) (by decide +kernel)) rfl
theorem kI_X5_hasText : Cond.instanceMethod yX5_hasText ∈ TT := tt_m (List.mem_of_getElem? (i := 433) (by decide +kernel)) rfl
theorem ks_X5_hasText : Cond.selects RX5 yX5_hasText yX5_hasText ∈ TT := tt_m (List.mem_of_getElem? (i := 434) (by decide +kernel)) rfl
theorem kC_X5_hasText : Cond.code yX5_hasText cX5_hasText 1 (some .boolean) ∈ TT := tt_m (List.mem_of_getElem? (i := 435) (by decide +kernel)) rfl
theorem km_X5_31 : Cond.methodLink RX5 31 yX5_behindEsc ∈ TT := tt_m (List.mem_of_getElem? (i := 436) (by decide +kernel)) rfl
theorem kI_X5_behindEsc : Cond.instanceMethod yX5_behindEsc ∈ TT := tt_m (List.mem_of_getElem? (i := 438) (by decide +kernel)) rfl
theorem kC_X5_behindEsc : Cond.code yX5_behindEsc cX5_behindEsc 2 (some .int) ∈ TT := tt_m (List.mem_of_getElem? (i := 439) (by decide +kernel)) rfl
theorem km_X5_35 : Cond.methodLink RX5 35 yX5_behindFamily ∈ TT := tt_m (List.mem_of_getElem? (i := 440) (by decide +kernel)) rfl
theorem kI_X5_behindFamily : Cond.instanceMethod yX5_behindFamily ∈ TT := tt_m (List.mem_of_getElem? (i := 442) (by decide +kernel)) rfl
theorem kC_X5_behindFamily : Cond.code yX5_behindFamily cX5_behindFamily 2 (some .int) ∈ TT := tt_m (List.mem_of_getElem? (i := 443) (by decide +kernel)) rfl
theorem km_X5_41 : Cond.methodLink RX5 41 yX5_beginField ∈ TT := tt_m (List.mem_of_getElem? (i := 444) (by decide +kernel)) rfl
theorem kI_X5_beginField : Cond.instanceMethod yX5_beginField ∈ TT := tt_m (List.mem_of_getElem? (i := 446) (by decide +kernel)) rfl
theorem kC_X5_beginField : Cond.code yX5_beginField cX5_beginField 1 none ∈ TT := tt_m (List.mem_of_getElem? (i := 447) (by decide +kernel)) rfl
theorem km_X5_38 : Cond.methodLink RX5 38 yX5_inField ∈ TT := tt_m (List.mem_of_getElem? (i := 448) (by decide +kernel)) rfl
theorem kI_X5_inField : Cond.instanceMethod yX5_inField ∈ TT := tt_m (List.mem_of_getElem? (i := 450) (by decide +kernel)) rfl
theorem kC_X5_inField : Cond.code yX5_inField cX5_inField 2 (some .int) ∈ TT := tt_m (List.mem_of_getElem? (i := 451) (by decide +kernel)) rfl
theorem km_X5_63 : Cond.methodLink RX5 63 yX5_endField ∈ TT := tt_m (List.mem_of_getElem? (i := 452) (by decide +kernel)) rfl
theorem kI_X5_endField : Cond.instanceMethod yX5_endField ∈ TT := tt_m (List.mem_of_getElem? (i := 454) (by decide +kernel)) rfl
theorem kC_X5_endField : Cond.code yX5_endField cX5_endField 3 none ∈ TT := tt_m (List.mem_of_getElem? (i := 455) (by decide +kernel)) rfl
theorem km_X5_67 : Cond.methodLink RX5 67 yX5_belongsToValue ∈ TT := tt_m (List.mem_of_getElem? (i := 456) (by decide +kernel)) rfl
theorem kI_X5_belongsToValue : Cond.instanceMethod yX5_belongsToValue ∈ TT := tt_m (List.mem_of_getElem? (i := 458) (by decide +kernel)) rfl
theorem kC_X5_belongsToValue : Cond.code yX5_belongsToValue cX5_belongsToValue 2 (some .boolean) ∈ TT := tt_m (List.mem_of_getElem? (i := 459) (by decide +kernel)) rfl
theorem km_X5_71 : Cond.methodLink RX5 71 yX5_digit ∈ TT := tt_m (List.mem_of_getElem? (i := 460) (by decide +kernel)) rfl
theorem kI_X5_digit : Cond.instanceMethod yX5_digit ∈ TT := tt_m (List.mem_of_getElem? (i := 462) (by decide +kernel)) rfl
theorem kC_X5_digit : Cond.code yX5_digit cX5_digit 2 none ∈ TT := tt_m (List.mem_of_getElem? (i := 463) (by decide +kernel)) rfl
theorem km_X5_74 : Cond.methodLink RX5 74 yJ9_min_7cf53 ∈ TT := tt_m (List.mem_of_getElem? (i := 464) (by decide +kernel)) rfl
theorem kS_J9_min_7cf53 : Cond.static yJ9_min_7cf53 ∈ TT := tt_m (List.mem_of_getElem? (i := 465) (by decide +kernel)) rfl
theorem kC_J9_min_7cf53 : Cond.code yJ9_min_7cf53 cJ9_min_7cf53 2 (some .int) ∈ TT := tt_m (List.mem_of_getElem? (i := 466) (by decide +kernel)) rfl
theorem km_X7_203 : Cond.methodLink RX7 203 yX7_character ∈ TT := tt_m (List.mem_of_getElem? (i := 467) (by decide +kernel)) rfl
theorem kI_X7_character : Cond.instanceMethod yX7_character ∈ TT := tt_m (List.mem_of_getElem? (i := 469) (by decide +kernel)) rfl
theorem kC_X7_character : Cond.code yX7_character cX7_character 4 none ∈ TT := tt_m (List.mem_of_getElem? (i := 470) (by decide +kernel)) rfl
theorem km_X7_242 : Cond.methodLink RX7 242 yX7_carriageReturn ∈ TT := tt_m (List.mem_of_getElem? (i := 471) (by decide +kernel)) rfl
theorem kI_X7_carriageReturn : Cond.instanceMethod yX7_carriageReturn ∈ TT := tt_m (List.mem_of_getElem? (i := 473) (by decide +kernel)) rfl
theorem kC_X7_carriageReturn : Cond.code yX7_carriageReturn cX7_carriageReturn 1 none ∈ TT := tt_m (List.mem_of_getElem? (i := 474) (by decide +kernel)) rfl
theorem km_X7_245 : Cond.methodLink RX7 245 yX7_lineFeed ∈ TT := tt_m (List.mem_of_getElem? (i := 475) (by decide +kernel)) rfl
theorem kI_X7_lineFeed : Cond.instanceMethod yX7_lineFeed ∈ TT := tt_m (List.mem_of_getElem? (i := 477) (by decide +kernel)) rfl
theorem kC_X7_lineFeed : Cond.code yX7_lineFeed cX7_lineFeed 3 none ∈ TT := tt_m (List.mem_of_getElem? (i := 478) (by decide +kernel)) rfl
theorem km_X7_229 : Cond.methodLink RX7 229 yX7_eject ∈ TT := tt_m (List.mem_of_getElem? (i := 479) (by decide +kernel)) rfl
theorem kI_X7_eject : Cond.instanceMethod yX7_eject ∈ TT := tt_m (List.mem_of_getElem? (i := 481) (by decide +kernel)) rfl
theorem kC_X7_eject : Cond.code yX7_eject cX7_eject 1 none ∈ TT := tt_m (List.mem_of_getElem? (i := 482) (by decide +kernel)) rfl
theorem km_X7_235 : Cond.methodLink RX7 235 yX0_add ∈ TT := tt_m (List.mem_of_getElem? (i := 483) (by decide +kernel)) rfl
theorem kI_X0_add : Cond.instanceMethod yX0_add ∈ TT := tt_m (List.mem_of_getElem? (i := 484) (by decide +kernel)) rfl
theorem ks_X0_add : Cond.selects RX0 yX0_add yX0_add ∈ TT := tt_m (List.mem_of_getElem? (i := 485) (by decide +kernel)) rfl
theorem kC_X0_add : Cond.code yX0_add cX0_add 4 none ∈ TT := tt_m (List.mem_of_getElem? (i := 486) (by decide +kernel)) rfl
theorem km_X0_17 : Cond.methodLink RX0 17 yJ9_floorMod_7cf53 ∈ TT := tt_m (List.mem_of_getElem? (i := 487) (by decide +kernel)) rfl
theorem kS_J9_floorMod_7cf53 : Cond.static yJ9_floorMod_7cf53 ∈ TT := tt_m (List.mem_of_getElem? (i := 488) (by decide +kernel)) rfl
theorem kC_J9_floorMod_7cf53 : Cond.code yJ9_floorMod_7cf53 cJ9_floorMod_7cf53 3 (some .int) ∈ TT := tt_m (List.mem_of_getElem? (i := 489) (by decide +kernel)) rfl
theorem km_X7_239 : Cond.methodLink RX7 239 yX6_clear ∈ TT := tt_m (List.mem_of_getElem? (i := 490) (by decide +kernel)) rfl
theorem kI_X6_clear : Cond.instanceMethod yX6_clear ∈ TT := tt_m (List.mem_of_getElem? (i := 491) (by decide +kernel)) rfl
theorem ks_X6_clear : Cond.selects RX6 yX6_clear yX6_clear ∈ TT := tt_m (List.mem_of_getElem? (i := 492) (by decide +kernel)) rfl
theorem kC_X6_clear : Cond.code yX6_clear cX6_clear 1 none ∈ TT := tt_m (List.mem_of_getElem? (i := 493) (by decide +kernel)) rfl
theorem km_X7_248 : Cond.methodLink RX7 248 yX6_put ∈ TT := tt_m (List.mem_of_getElem? (i := 494) (by decide +kernel)) rfl
theorem kI_X6_put : Cond.instanceMethod yX6_put ∈ TT := tt_m (List.mem_of_getElem? (i := 495) (by decide +kernel)) rfl
theorem ks_X6_put : Cond.selects RX6 yX6_put yX6_put ∈ TT := tt_m (List.mem_of_getElem? (i := 496) (by decide +kernel)) rfl
theorem kC_X6_put : Cond.code yX6_put cX6_put 5 none ∈ TT := tt_m (List.mem_of_getElem? (i := 497) (by decide +kernel)) rfl
theorem km_X7_80 : Cond.methodLink RX7 80 yX7_setX ∈ TT := tt_m (List.mem_of_getElem? (i := 498) (by decide +kernel)) rfl
theorem kI_X7_setX : Cond.instanceMethod yX7_setX ∈ TT := tt_m (List.mem_of_getElem? (i := 500) (by decide +kernel)) rfl
theorem kC_X7_setX : Cond.code yX7_setX cX7_setX 3 none ∈ TT := tt_m (List.mem_of_getElem? (i := 501) (by decide +kernel)) rfl
theorem km_X7_206 : Cond.methodLink RX7 206 yX7_controlCode ∈ TT := tt_m (List.mem_of_getElem? (i := 502) (by decide +kernel)) rfl
theorem kI_X7_controlCode : Cond.instanceMethod yX7_controlCode ∈ TT := tt_m (List.mem_of_getElem? (i := 504) (by decide +kernel)) rfl
theorem kC_X7_controlCode : Cond.code yX7_controlCode cX7_controlCode 2 none ∈ TT := tt_m (List.mem_of_getElem? (i := 505) (by decide +kernel)) rfl
theorem km_X7_252 : Cond.methodLink RX7 252 yX7_backspace ∈ TT := tt_m (List.mem_of_getElem? (i := 506) (by decide +kernel)) rfl
theorem kI_X7_backspace : Cond.instanceMethod yX7_backspace ∈ TT := tt_m (List.mem_of_getElem? (i := 508) (by decide +kernel)) rfl
theorem kC_X7_backspace : Cond.code yX7_backspace cX7_backspace 2 none ∈ TT := tt_m (List.mem_of_getElem? (i := 509) (by decide +kernel)) rfl
theorem km_X7_255 : Cond.methodLink RX7 255 yX7_tab ∈ TT := tt_m (List.mem_of_getElem? (i := 510) (by decide +kernel)) rfl
theorem kI_X7_tab : Cond.instanceMethod yX7_tab ∈ TT := tt_m (List.mem_of_getElem? (i := 512) (by decide +kernel)) rfl
theorem kC_X7_tab : Cond.code yX7_tab cX7_tab 5 none ∈ TT := tt_m (List.mem_of_getElem? (i := 513) (by decide +kernel)) rfl
theorem kc_X7_264 : Cond.constantLong RX7 264 (8) ∈ TT := tt_m (List.mem_of_getElem? (i := 514) (by decide +kernel)) rfl
theorem km_X7_258 : Cond.methodLink RX7 258 yX7_returnIfLineEndsSo ∈ TT := tt_m (List.mem_of_getElem? (i := 515) (by decide +kernel)) rfl
theorem kI_X7_returnIfLineEndsSo : Cond.instanceMethod yX7_returnIfLineEndsSo ∈ TT := tt_m (List.mem_of_getElem? (i := 517) (by decide +kernel)) rfl
theorem kC_X7_returnIfLineEndsSo : Cond.code yX7_returnIfLineEndsSo cX7_returnIfLineEndsSo 1 none ∈ TT := tt_m (List.mem_of_getElem? (i := 518) (by decide +kernel)) rfl
theorem km_X7_261 : Cond.methodLink RX7 261 yX7_returnWithLineEnd ∈ TT := tt_m (List.mem_of_getElem? (i := 519) (by decide +kernel)) rfl
theorem kI_X7_returnWithLineEnd : Cond.instanceMethod yX7_returnWithLineEnd ∈ TT := tt_m (List.mem_of_getElem? (i := 521) (by decide +kernel)) rfl
theorem kC_X7_returnWithLineEnd : Cond.code yX7_returnWithLineEnd cX7_returnWithLineEnd 1 none ∈ TT := tt_m (List.mem_of_getElem? (i := 522) (by decide +kernel)) rfl
theorem km_X7_209 : Cond.methodLink RX7 209 yX7_shortSequence ∈ TT := tt_m (List.mem_of_getElem? (i := 523) (by decide +kernel)) rfl
theorem kI_X7_shortSequence : Cond.instanceMethod yX7_shortSequence ∈ TT := tt_m (List.mem_of_getElem? (i := 525) (by decide +kernel)) rfl
theorem kC_X7_shortSequence : Cond.code yX7_shortSequence cX7_shortSequence 2 none ∈ TT := tt_m (List.mem_of_getElem? (i := 526) (by decide +kernel)) rfl
theorem km_X7_197 : Cond.methodLink RX7 197 yX6_isDue ∈ TT := tt_m (List.mem_of_getElem? (i := 527) (by decide +kernel)) rfl
theorem kI_X6_isDue : Cond.instanceMethod yX6_isDue ∈ TT := tt_m (List.mem_of_getElem? (i := 528) (by decide +kernel)) rfl
theorem ks_X6_isDue : Cond.selects RX6 yX6_isDue yX6_isDue ∈ TT := tt_m (List.mem_of_getElem? (i := 529) (by decide +kernel)) rfl
theorem kC_X6_isDue : Cond.code yX6_isDue cX6_isDue 1 (some .boolean) ∈ TT := tt_m (List.mem_of_getElem? (i := 530) (by decide +kernel)) rfl
theorem km_X7_212 : Cond.methodLink RX7 212 yX7_command ∈ TT := tt_m (List.mem_of_getElem? (i := 531) (by decide +kernel)) rfl
theorem kI_X7_command : Cond.instanceMethod yX7_command ∈ TT := tt_m (List.mem_of_getElem? (i := 533) (by decide +kernel)) rfl
theorem kC_X7_command : Cond.code yX7_command cX7_command 6 none ∈ TT := tt_m (List.mem_of_getElem? (i := 534) (by decide +kernel)) rfl
theorem kc_X7_269 : Cond.constantLong RX7 269 (10000) ∈ TT := tt_m (List.mem_of_getElem? (i := 535) (by decide +kernel)) rfl
theorem km_X7_277 : Cond.methodLink RX7 277 yX7_pageCommand ∈ TT := tt_m (List.mem_of_getElem? (i := 536) (by decide +kernel)) rfl
theorem kI_X7_pageCommand : Cond.instanceMethod yX7_pageCommand ∈ TT := tt_m (List.mem_of_getElem? (i := 538) (by decide +kernel)) rfl
theorem kC_X7_pageCommand : Cond.code yX7_pageCommand cX7_pageCommand 5 (some .boolean) ∈ TT := tt_m (List.mem_of_getElem? (i := 539) (by decide +kernel)) rfl
theorem km_X7_309 : Cond.methodLink RX7 309 yX4_isSize ∈ TT := tt_m (List.mem_of_getElem? (i := 540) (by decide +kernel)) rfl
theorem kS_X4_isSize : Cond.static yX4_isSize ∈ TT := tt_m (List.mem_of_getElem? (i := 541) (by decide +kernel)) rfl
theorem kC_X4_isSize : Cond.code yX4_isSize cX4_isSize 2 (some .boolean) ∈ TT := tt_m (List.mem_of_getElem? (i := 542) (by decide +kernel)) rfl
theorem kc_X4_7 : Cond.constantLong RX4 7 (2) ∈ TT := tt_m (List.mem_of_getElem? (i := 543) (by decide +kernel)) rfl
theorem kc_X4_9 : Cond.constantLong RX4 9 (3) ∈ TT := tt_m (List.mem_of_getElem? (i := 544) (by decide +kernel)) rfl
theorem kc_X4_11 : Cond.constantLong RX4 11 (6) ∈ TT := tt_m (List.mem_of_getElem? (i := 545) (by decide +kernel)) rfl
theorem kc_X4_13 : Cond.constantLong RX4 13 (26) ∈ TT := tt_m (List.mem_of_getElem? (i := 546) (by decide +kernel)) rfl
theorem km_X7_312 : Cond.methodLink RX7 312 yX7_changePaper ∈ TT := tt_m (List.mem_of_getElem? (i := 547) (by decide +kernel)) rfl
theorem kI_X7_changePaper : Cond.instanceMethod yX7_changePaper ∈ TT := tt_m (List.mem_of_getElem? (i := 549) (by decide +kernel)) rfl
theorem kC_X7_changePaper : Cond.code yX7_changePaper cX7_changePaper 3 none ∈ TT := tt_m (List.mem_of_getElem? (i := 550) (by decide +kernel)) rfl
theorem kc_X7_315 : Cond.constantLong RX7 315 (3) ∈ TT := tt_m (List.mem_of_getElem? (i := 551) (by decide +kernel)) rfl
theorem kc_X7_317 : Cond.constantLong RX7 317 (150) ∈ TT := tt_m (List.mem_of_getElem? (i := 552) (by decide +kernel)) rfl
theorem km_X7_319 : Cond.methodLink RX7 319 yX7_setStepDown ∈ TT := tt_m (List.mem_of_getElem? (i := 553) (by decide +kernel)) rfl
theorem kI_X7_setStepDown : Cond.instanceMethod yX7_setStepDown ∈ TT := tt_m (List.mem_of_getElem? (i := 555) (by decide +kernel)) rfl
theorem kC_X7_setStepDown : Cond.code yX7_setStepDown cX7_setStepDown 3 none ∈ TT := tt_m (List.mem_of_getElem? (i := 556) (by decide +kernel)) rfl
theorem km_X7_322 : Cond.methodLink RX7 322 yX7_setLinesPerInch ∈ TT := tt_m (List.mem_of_getElem? (i := 557) (by decide +kernel)) rfl
theorem kI_X7_setLinesPerInch : Cond.instanceMethod yX7_setLinesPerInch ∈ TT := tt_m (List.mem_of_getElem? (i := 559) (by decide +kernel)) rfl
theorem kC_X7_setLinesPerInch : Cond.code yX7_setLinesPerInch cX7_setLinesPerInch 2 none ∈ TT := tt_m (List.mem_of_getElem? (i := 560) (by decide +kernel)) rfl
theorem km_X7_325 : Cond.methodLink RX7 325 yX7_setTop ∈ TT := tt_m (List.mem_of_getElem? (i := 561) (by decide +kernel)) rfl
theorem kI_X7_setTop : Cond.instanceMethod yX7_setTop ∈ TT := tt_m (List.mem_of_getElem? (i := 563) (by decide +kernel)) rfl
theorem kC_X7_setTop : Cond.code yX7_setTop cX7_setTop 3 none ∈ TT := tt_m (List.mem_of_getElem? (i := 564) (by decide +kernel)) rfl
theorem kc_X7_331 : Cond.constantLong RX7 331 (3600) ∈ TT := tt_m (List.mem_of_getElem? (i := 565) (by decide +kernel)) rfl
theorem km_X7_328 : Cond.methodLink RX7 328 yX7_setLength ∈ TT := tt_m (List.mem_of_getElem? (i := 566) (by decide +kernel)) rfl
theorem kI_X7_setLength : Cond.instanceMethod yX7_setLength ∈ TT := tt_m (List.mem_of_getElem? (i := 568) (by decide +kernel)) rfl
theorem kC_X7_setLength : Cond.code yX7_setLength cX7_setLength 3 none ∈ TT := tt_m (List.mem_of_getElem? (i := 569) (by decide +kernel)) rfl
theorem km_X7_281 : Cond.methodLink RX7 281 yX7_spacingCommand ∈ TT := tt_m (List.mem_of_getElem? (i := 570) (by decide +kernel)) rfl
theorem kI_X7_spacingCommand : Cond.instanceMethod yX7_spacingCommand ∈ TT := tt_m (List.mem_of_getElem? (i := 572) (by decide +kernel)) rfl
theorem kC_X7_spacingCommand : Cond.code yX7_spacingCommand cX7_spacingCommand 5 (some .boolean) ∈ TT := tt_m (List.mem_of_getElem? (i := 573) (by decide +kernel)) rfl
theorem kc_X7_333 : Cond.constantLong RX7 333 (60) ∈ TT := tt_m (List.mem_of_getElem? (i := 574) (by decide +kernel)) rfl
theorem km_X7_284 : Cond.methodLink RX7 284 yX7_marginCommand ∈ TT := tt_m (List.mem_of_getElem? (i := 575) (by decide +kernel)) rfl
theorem kI_X7_marginCommand : Cond.instanceMethod yX7_marginCommand ∈ TT := tt_m (List.mem_of_getElem? (i := 577) (by decide +kernel)) rfl
theorem kC_X7_marginCommand : Cond.code yX7_marginCommand cX7_marginCommand 3 (some .boolean) ∈ TT := tt_m (List.mem_of_getElem? (i := 578) (by decide +kernel)) rfl
theorem km_X7_335 : Cond.methodLink RX7 335 yX7_setLeft ∈ TT := tt_m (List.mem_of_getElem? (i := 579) (by decide +kernel)) rfl
theorem kI_X7_setLeft : Cond.instanceMethod yX7_setLeft ∈ TT := tt_m (List.mem_of_getElem? (i := 581) (by decide +kernel)) rfl
theorem kC_X7_setLeft : Cond.code yX7_setLeft cX7_setLeft 3 none ∈ TT := tt_m (List.mem_of_getElem? (i := 582) (by decide +kernel)) rfl
theorem km_X7_338 : Cond.methodLink RX7 338 yX7_setRight ∈ TT := tt_m (List.mem_of_getElem? (i := 583) (by decide +kernel)) rfl
theorem kI_X7_setRight : Cond.instanceMethod yX7_setRight ∈ TT := tt_m (List.mem_of_getElem? (i := 585) (by decide +kernel)) rfl
theorem kC_X7_setRight : Cond.code yX7_setRight cX7_setRight 3 none ∈ TT := tt_m (List.mem_of_getElem? (i := 586) (by decide +kernel)) rfl
theorem km_X7_288 : Cond.methodLink RX7 288 yX7_cursorCommand ∈ TT := tt_m (List.mem_of_getElem? (i := 587) (by decide +kernel)) rfl
theorem kI_X7_cursorCommand : Cond.instanceMethod yX7_cursorCommand ∈ TT := tt_m (List.mem_of_getElem? (i := 589) (by decide +kernel)) rfl
theorem kC_X7_cursorCommand : Cond.code yX7_cursorCommand cX7_cursorCommand 1 (some .boolean) ∈ TT := tt_m (List.mem_of_getElem? (i := 590) (by decide +kernel)) rfl
theorem km_X7_344 : Cond.methodLink RX7 344 yX7_goAcross ∈ TT := tt_m (List.mem_of_getElem? (i := 591) (by decide +kernel)) rfl
theorem kI_X7_goAcross : Cond.instanceMethod yX7_goAcross ∈ TT := tt_m (List.mem_of_getElem? (i := 593) (by decide +kernel)) rfl
theorem kC_X7_goAcross : Cond.code yX7_goAcross cX7_goAcross 4 none ∈ TT := tt_m (List.mem_of_getElem? (i := 594) (by decide +kernel)) rfl
theorem kc_X7_347 : Cond.constantLong RX7 347 (10) ∈ TT := tt_m (List.mem_of_getElem? (i := 595) (by decide +kernel)) rfl
theorem km_X7_349 : Cond.methodLink RX7 349 yX7_goDown ∈ TT := tt_m (List.mem_of_getElem? (i := 596) (by decide +kernel)) rfl
theorem kI_X7_goDown : Cond.instanceMethod yX7_goDown ∈ TT := tt_m (List.mem_of_getElem? (i := 598) (by decide +kernel)) rfl
theorem kC_X7_goDown : Cond.code yX7_goDown cX7_goDown 5 none ∈ TT := tt_m (List.mem_of_getElem? (i := 599) (by decide +kernel)) rfl
theorem km_X7_291 : Cond.methodLink RX7 291 yX7_wrapCommand ∈ TT := tt_m (List.mem_of_getElem? (i := 600) (by decide +kernel)) rfl
theorem kI_X7_wrapCommand : Cond.instanceMethod yX7_wrapCommand ∈ TT := tt_m (List.mem_of_getElem? (i := 602) (by decide +kernel)) rfl
theorem kC_X7_wrapCommand : Cond.code yX7_wrapCommand cX7_wrapCommand 3 (some .boolean) ∈ TT := tt_m (List.mem_of_getElem? (i := 603) (by decide +kernel)) rfl
theorem km_X7_294 : Cond.methodLink RX7 294 yX7_stackCommand ∈ TT := tt_m (List.mem_of_getElem? (i := 604) (by decide +kernel)) rfl
theorem kI_X7_stackCommand : Cond.instanceMethod yX7_stackCommand ∈ TT := tt_m (List.mem_of_getElem? (i := 606) (by decide +kernel)) rfl
theorem kC_X7_stackCommand : Cond.code yX7_stackCommand cX7_stackCommand 3 (some .boolean) ∈ TT := tt_m (List.mem_of_getElem? (i := 607) (by decide +kernel)) rfl
theorem km_X7_341 : Cond.methodLink RX7 341 yX1_push ∈ TT := tt_m (List.mem_of_getElem? (i := 608) (by decide +kernel)) rfl
theorem kI_X1_push : Cond.instanceMethod yX1_push ∈ TT := tt_m (List.mem_of_getElem? (i := 609) (by decide +kernel)) rfl
theorem ks_X1_push : Cond.selects RX1 yX1_push yX1_push ∈ TT := tt_m (List.mem_of_getElem? (i := 610) (by decide +kernel)) rfl
theorem kC_X1_push : Cond.code yX1_push cX1_push 1 none ∈ TT := tt_m (List.mem_of_getElem? (i := 611) (by decide +kernel)) rfl
theorem km_X7_297 : Cond.methodLink RX7 297 yX5_hasText ∈ TT := tt_m (List.mem_of_getElem? (i := 612) (by decide +kernel)) rfl
theorem km_X7_300 : Cond.methodLink RX7 300 yX7_dotCommand ∈ TT := tt_m (List.mem_of_getElem? (i := 613) (by decide +kernel)) rfl
theorem kI_X7_dotCommand : Cond.instanceMethod yX7_dotCommand ∈ TT := tt_m (List.mem_of_getElem? (i := 615) (by decide +kernel)) rfl
theorem kC_X7_dotCommand : Cond.code yX7_dotCommand cX7_dotCommand 1 (some .boolean) ∈ TT := tt_m (List.mem_of_getElem? (i := 616) (by decide +kernel)) rfl
theorem kc_X7_353 : Cond.constantLong RX7 353 (24) ∈ TT := tt_m (List.mem_of_getElem? (i := 617) (by decide +kernel)) rfl
theorem km_X7_303 : Cond.methodLink RX7 303 yX3_add ∈ TT := tt_m (List.mem_of_getElem? (i := 618) (by decide +kernel)) rfl
theorem kI_X3_add : Cond.instanceMethod yX3_add ∈ TT := tt_m (List.mem_of_getElem? (i := 619) (by decide +kernel)) rfl
theorem ks_X3_add : Cond.selects RX3 yX3_add yX3_add ∈ TT := tt_m (List.mem_of_getElem? (i := 620) (by decide +kernel)) rfl
theorem kC_X3_add : Cond.code yX3_add cX3_add 3 none ∈ TT := tt_m (List.mem_of_getElem? (i := 621) (by decide +kernel)) rfl
theorem km_X7_215 : Cond.methodLink RX7 215 yX3_addByte ∈ TT := tt_m (List.mem_of_getElem? (i := 622) (by decide +kernel)) rfl
theorem kI_X3_addByte : Cond.instanceMethod yX3_addByte ∈ TT := tt_m (List.mem_of_getElem? (i := 623) (by decide +kernel)) rfl
theorem ks_X3_addByte : Cond.selects RX3 yX3_addByte yX3_addByte ∈ TT := tt_m (List.mem_of_getElem? (i := 624) (by decide +kernel)) rfl
theorem kC_X3_addByte : Cond.code yX3_addByte cX3_addByte 3 none ∈ TT := tt_m (List.mem_of_getElem? (i := 625) (by decide +kernel)) rfl
theorem km_L_43 : Cond.methodLink RL 43 yX7_advance ∈ TT := tt_m (List.mem_of_getElem? (i := 626) (by decide +kernel)) rfl
theorem kI_X7_advance : Cond.instanceMethod yX7_advance ∈ TT := tt_m (List.mem_of_getElem? (i := 627) (by decide +kernel)) rfl
theorem ks_X7_advance : Cond.selects RX7 yX7_advance yX7_advance ∈ TT := tt_m (List.mem_of_getElem? (i := 628) (by decide +kernel)) rfl
theorem kC_X7_advance : Cond.code yX7_advance cX7_advance 4 (some .boolean) ∈ TT := tt_m (List.mem_of_getElem? (i := 629) (by decide +kernel)) rfl
theorem km_L_48 : Cond.methodLink RL 48 yX7_due ∈ TT := tt_m (List.mem_of_getElem? (i := 630) (by decide +kernel)) rfl
theorem kI_X7_due : Cond.instanceMethod yX7_due ∈ TT := tt_m (List.mem_of_getElem? (i := 631) (by decide +kernel)) rfl
theorem ks_X7_due : Cond.selects RX7 yX7_due yX7_due ∈ TT := tt_m (List.mem_of_getElem? (i := 632) (by decide +kernel)) rfl
theorem kC_X7_due : Cond.code yX7_due cX7_due 1 none ∈ TT := tt_m (List.mem_of_getElem? (i := 633) (by decide +kernel)) rfl
theorem km_L_52 : Cond.methodLink RL 52 yX7_move ∈ TT := tt_m (List.mem_of_getElem? (i := 634) (by decide +kernel)) rfl
theorem kI_X7_move : Cond.instanceMethod yX7_move ∈ TT := tt_m (List.mem_of_getElem? (i := 635) (by decide +kernel)) rfl
theorem ks_X7_move : Cond.selects RX7 yX7_move yX7_move ∈ TT := tt_m (List.mem_of_getElem? (i := 636) (by decide +kernel)) rfl
theorem kC_X7_move : Cond.code yX7_move cX7_move 3 none ∈ TT := tt_m (List.mem_of_getElem? (i := 637) (by decide +kernel)) rfl
theorem km_L_57 : Cond.methodLink RL 57 yX7_keep ∈ TT := tt_m (List.mem_of_getElem? (i := 638) (by decide +kernel)) rfl
theorem kI_X7_keep : Cond.instanceMethod yX7_keep ∈ TT := tt_m (List.mem_of_getElem? (i := 639) (by decide +kernel)) rfl
theorem ks_X7_keep : Cond.selects RX7 yX7_keep yX7_keep ∈ TT := tt_m (List.mem_of_getElem? (i := 640) (by decide +kernel)) rfl
theorem kC_X7_keep : Cond.code yX7_keep cX7_keep 2 (some .boolean) ∈ TT := tt_m (List.mem_of_getElem? (i := 641) (by decide +kernel)) rfl
theorem km_X7_87 : Cond.methodLink RX7 87 yX1_copyFrom ∈ TT := tt_m (List.mem_of_getElem? (i := 642) (by decide +kernel)) rfl
theorem kI_X1_copyFrom : Cond.instanceMethod yX1_copyFrom ∈ TT := tt_m (List.mem_of_getElem? (i := 643) (by decide +kernel)) rfl
theorem ks_X1_copyFrom : Cond.selects RX1 yX1_copyFrom yX1_copyFrom ∈ TT := tt_m (List.mem_of_getElem? (i := 644) (by decide +kernel)) rfl
theorem kC_X1_copyFrom : Cond.code yX1_copyFrom cX1_copyFrom 2 none ∈ TT := tt_m (List.mem_of_getElem? (i := 645) (by decide +kernel)) rfl
theorem km_X1_57 : Cond.methodLink RX1 57 (⟨"java/lang/System", "arraycopy", "(Ljava/lang/Object;ILjava/lang/Object;II)V"⟩ : MethodName) ∈ TT := tt_m (List.mem_of_getElem? (i := 646) (by decide +kernel)) rfl
theorem kS_System_arraycopy : Cond.static (⟨"java/lang/System", "arraycopy", "(Ljava/lang/Object;ILjava/lang/Object;II)V"⟩ : MethodName) ∈ TT := tt_m (List.mem_of_getElem? (i := 647) (by decide +kernel)) rfl
theorem kV_System_arraycopy : Cond.native (⟨"java/lang/System", "arraycopy", "(Ljava/lang/Object;ILjava/lang/Object;II)V"⟩ : MethodName) ∈ TT := tt_m (List.mem_of_getElem? (i := 648) (by decide +kernel)) rfl
theorem km_L_62 : Cond.methodLink RL 62 yX7_bring ∈ TT := tt_m (List.mem_of_getElem? (i := 649) (by decide +kernel)) rfl
theorem kI_X7_bring : Cond.instanceMethod yX7_bring ∈ TT := tt_m (List.mem_of_getElem? (i := 650) (by decide +kernel)) rfl
theorem ks_X7_bring : Cond.selects RX7 yX7_bring yX7_bring ∈ TT := tt_m (List.mem_of_getElem? (i := 651) (by decide +kernel)) rfl
theorem kC_X7_bring : Cond.code yX7_bring cX7_bring 2 (some .boolean) ∈ TT := tt_m (List.mem_of_getElem? (i := 652) (by decide +kernel)) rfl
theorem km_L_86 : Cond.methodLink RL 86 yX7_take ∈ TT := tt_m (List.mem_of_getElem? (i := 653) (by decide +kernel)) rfl
theorem kI_X7_take : Cond.instanceMethod yX7_take ∈ TT := tt_m (List.mem_of_getElem? (i := 654) (by decide +kernel)) rfl
theorem ks_X7_take : Cond.selects RX7 yX7_take yX7_take ∈ TT := tt_m (List.mem_of_getElem? (i := 655) (by decide +kernel)) rfl
theorem kC_X7_take : Cond.code yX7_take cX7_take 1 (some .boolean) ∈ TT := tt_m (List.mem_of_getElem? (i := 656) (by decide +kernel)) rfl
theorem km_X7_138 : Cond.methodLink RX7 138 yX3_removeFirst ∈ TT := tt_m (List.mem_of_getElem? (i := 657) (by decide +kernel)) rfl
theorem kI_X3_removeFirst : Cond.instanceMethod yX3_removeFirst ∈ TT := tt_m (List.mem_of_getElem? (i := 658) (by decide +kernel)) rfl
theorem ks_X3_removeFirst : Cond.selects RX3 yX3_removeFirst yX3_removeFirst ∈ TT := tt_m (List.mem_of_getElem? (i := 659) (by decide +kernel)) rfl
theorem kC_X3_removeFirst : Cond.code yX3_removeFirst cX3_removeFirst 1 (some .boolean) ∈ TT := tt_m (List.mem_of_getElem? (i := 660) (by decide +kernel)) rfl
theorem km_L_95 : Cond.methodLink RL 95 yX7_look ∈ TT := tt_m (List.mem_of_getElem? (i := 661) (by decide +kernel)) rfl
theorem kI_X7_look : Cond.instanceMethod yX7_look ∈ TT := tt_m (List.mem_of_getElem? (i := 662) (by decide +kernel)) rfl
theorem ks_X7_look : Cond.selects RX7 yX7_look yX7_look ∈ TT := tt_m (List.mem_of_getElem? (i := 663) (by decide +kernel)) rfl
theorem kC_X7_look : Cond.code yX7_look cX7_look 2 (some .int) ∈ TT := tt_m (List.mem_of_getElem? (i := 664) (by decide +kernel)) rfl
theorem km_X7_187 : Cond.methodLink RX7 187 yX6_isOverrun ∈ TT := tt_m (List.mem_of_getElem? (i := 665) (by decide +kernel)) rfl
theorem kI_X6_isOverrun : Cond.instanceMethod yX6_isOverrun ∈ TT := tt_m (List.mem_of_getElem? (i := 666) (by decide +kernel)) rfl
theorem ks_X6_isOverrun : Cond.selects RX6 yX6_isOverrun yX6_isOverrun ∈ TT := tt_m (List.mem_of_getElem? (i := 667) (by decide +kernel)) rfl
theorem kC_X6_isOverrun : Cond.code yX6_isOverrun cX6_isOverrun 1 (some .boolean) ∈ TT := tt_m (List.mem_of_getElem? (i := 668) (by decide +kernel)) rfl
theorem km_X7_194 : Cond.methodLink RX7 194 yX5_isUnderWay ∈ TT := tt_m (List.mem_of_getElem? (i := 669) (by decide +kernel)) rfl
theorem kI_X5_isUnderWay : Cond.instanceMethod yX5_isUnderWay ∈ TT := tt_m (List.mem_of_getElem? (i := 670) (by decide +kernel)) rfl
theorem ks_X5_isUnderWay : Cond.selects RX5 yX5_isUnderWay yX5_isUnderWay ∈ TT := tt_m (List.mem_of_getElem? (i := 671) (by decide +kernel)) rfl
theorem kC_X5_isUnderWay : Cond.code yX5_isUnderWay cX5_isUnderWay 1 (some .boolean) ∈ TT := tt_m (List.mem_of_getElem? (i := 672) (by decide +kernel)) rfl
theorem km_L_66 : Cond.methodLink RL 66 yL_glyph ∈ TT := tt_m (List.mem_of_getElem? (i := 673) (by decide +kernel)) rfl
theorem kS_L_glyph : Cond.static yL_glyph ∈ TT := tt_m (List.mem_of_getElem? (i := 674) (by decide +kernel)) rfl
theorem kk_L_13 : Cond.classLink RL 13 "java/lang/IndexOutOfBoundsException" ∈ TT := tt_m (List.mem_of_getElem? (i := 676) (by decide +kernel)) rfl
theorem km_L_7 : Cond.methodLink RL 7 yX7_glyph ∈ TT := tt_m (List.mem_of_getElem? (i := 677) (by decide +kernel)) rfl
theorem kI_X7_glyph : Cond.instanceMethod yX7_glyph ∈ TT := tt_m (List.mem_of_getElem? (i := 678) (by decide +kernel)) rfl
theorem ks_X7_glyph : Cond.selects RX7 yX7_glyph yX7_glyph ∈ TT := tt_m (List.mem_of_getElem? (i := 679) (by decide +kernel)) rfl
theorem kC_X7_glyph : Cond.code yX7_glyph cX7_glyph 3 (some .int) ∈ TT := tt_m (List.mem_of_getElem? (i := 680) (by decide +kernel)) rfl
theorem kk_X7_114 : Cond.classLink RX7 114 "java/lang/IndexOutOfBoundsException" ∈ TT := tt_m (List.mem_of_getElem? (i := 681) (by decide +kernel)) rfl
theorem kN_IndexOutOfBoundsException : Cond.instantiable "java/lang/IndexOutOfBoundsException" 6 ∈ TT := tt_m (List.mem_of_getElem? (i := 682) (by decide +kernel)) rfl
theorem kf_Throwable_198 : Cond.fieldLink "java/lang/Throwable" 198 "java/lang/Throwable" "backtrace" "Ljava/lang/Object;" ∈ TT := tt_m (List.mem_of_getElem? (i := 702) (by decide +kernel)) rfl
theorem kI_Throwable__init_ : Cond.instanceMethod (⟨"java/lang/Throwable", "<init>", "()V"⟩ : MethodName) ∈ TT := tt_m (List.mem_of_getElem? (i := 704) (by decide +kernel)) rfl
theorem km_Throwable_1 : Cond.methodLink "java/lang/Throwable" 1 (⟨"java/lang/Object", "<init>", "()V"⟩ : MethodName) ∈ TT := tt_m (List.mem_of_getElem? (i := 706) (by decide +kernel)) rfl
theorem kf_Throwable_13 : Cond.fieldLink "java/lang/Throwable" 13 "java/lang/Throwable" "UNASSIGNED_STACK" "[Ljava/lang/StackTraceElement;" ∈ TT := tt_m (List.mem_of_getElem? (i := 707) (by decide +kernel)) rfl
theorem kf_Throwable_20 : Cond.fieldLink "java/lang/Throwable" 20 "java/lang/Throwable" "SUPPRESSED_SENTINEL" "Ljava/util/List;" ∈ TT := tt_m (List.mem_of_getElem? (i := 709) (by decide +kernel)) rfl
theorem km_Throwable_27 : Cond.methodLink "java/lang/Throwable" 27 (⟨"java/lang/Throwable", "fillInStackTrace", "()Ljava/lang/Throwable;"⟩ : MethodName) ∈ TT := tt_m (List.mem_of_getElem? (i := 711) (by decide +kernel)) rfl
theorem kI_Throwable_fillInStackTrace : Cond.instanceMethod (⟨"java/lang/Throwable", "fillInStackTrace", "()Ljava/lang/Throwable;"⟩ : MethodName) ∈ TT := tt_m (List.mem_of_getElem? (i := 712) (by decide +kernel)) rfl
theorem km_Throwable_202 : Cond.methodLink "java/lang/Throwable" 202 (⟨"java/lang/Throwable", "fillInStackTrace", "(I)Ljava/lang/Throwable;"⟩ : MethodName) ∈ TT := tt_m (List.mem_of_getElem? (i := 716) (by decide +kernel)) rfl
theorem kN_Throwable : Cond.instantiable "java/lang/Throwable" 6 ∈ TT := tt_m (List.mem_of_getElem? (i := 719) (by decide +kernel)) rfl
theorem kV_Throwable_fillInStackTrace : Cond.native (⟨"java/lang/Throwable", "fillInStackTrace", "(I)Ljava/lang/Throwable;"⟩ : MethodName) ∈ TT := tt_m (List.mem_of_getElem? (i := 720) (by decide +kernel)) rfl
theorem km_X7_116 : Cond.methodLink RX7 116 (⟨"java/lang/IndexOutOfBoundsException", "<init>", "()V"⟩ : MethodName) ∈ TT := tt_m (List.mem_of_getElem? (i := 721) (by decide +kernel)) rfl
theorem kI_IndexOutOfBoundsException__init_ : Cond.instanceMethod (⟨"java/lang/IndexOutOfBoundsException", "<init>", "()V"⟩ : MethodName) ∈ TT := tt_m (List.mem_of_getElem? (i := 722) (by decide +kernel)) rfl
theorem km_IndexOutOfBoundsException_1 : Cond.methodLink "java/lang/IndexOutOfBoundsException" 1 (⟨"java/lang/RuntimeException", "<init>", "()V"⟩ : MethodName) ∈ TT := tt_m (List.mem_of_getElem? (i := 724) (by decide +kernel)) rfl
theorem kI_RuntimeException__init_ : Cond.instanceMethod (⟨"java/lang/RuntimeException", "<init>", "()V"⟩ : MethodName) ∈ TT := tt_m (List.mem_of_getElem? (i := 725) (by decide +kernel)) rfl
theorem km_RuntimeException_1 : Cond.methodLink "java/lang/RuntimeException" 1 (⟨"java/lang/Exception", "<init>", "()V"⟩ : MethodName) ∈ TT := tt_m (List.mem_of_getElem? (i := 727) (by decide +kernel)) rfl
theorem kI_Exception__init_ : Cond.instanceMethod (⟨"java/lang/Exception", "<init>", "()V"⟩ : MethodName) ∈ TT := tt_m (List.mem_of_getElem? (i := 728) (by decide +kernel)) rfl
theorem km_Exception_1 : Cond.methodLink "java/lang/Exception" 1 (⟨"java/lang/Throwable", "<init>", "()V"⟩ : MethodName) ∈ TT := tt_m (List.mem_of_getElem? (i := 730) (by decide +kernel)) rfl
theorem kf_Throwable_7 : Cond.fieldLink "java/lang/Throwable" 7 "java/lang/Throwable" "cause" "Ljava/lang/Throwable;" ∈ TT := tt_m (List.mem_of_getElem? (i := 732) (by decide +kernel)) rfl
theorem kf_Throwable_17 : Cond.fieldLink "java/lang/Throwable" 17 "java/lang/Throwable" "stackTrace" "[Ljava/lang/StackTraceElement;" ∈ TT := tt_m (List.mem_of_getElem? (i := 733) (by decide +kernel)) rfl
theorem kf_Throwable_24 : Cond.fieldLink "java/lang/Throwable" 24 "java/lang/Throwable" "suppressedExceptions" "Ljava/util/List;" ∈ TT := tt_m (List.mem_of_getElem? (i := 734) (by decide +kernel)) rfl
theorem km_X7_117 : Cond.methodLink RX7 117 yX6_partOf ∈ TT := tt_m (List.mem_of_getElem? (i := 743) (by decide +kernel)) rfl
theorem kI_X6_partOf : Cond.instanceMethod yX6_partOf ∈ TT := tt_m (List.mem_of_getElem? (i := 744) (by decide +kernel)) rfl
theorem ks_X6_partOf : Cond.selects RX6 yX6_partOf yX6_partOf ∈ TT := tt_m (List.mem_of_getElem? (i := 745) (by decide +kernel)) rfl
theorem kC_X6_partOf : Cond.code yX6_partOf cX6_partOf 5 (some .int) ∈ TT := tt_m (List.mem_of_getElem? (i := 746) (by decide +kernel)) rfl
theorem kc_X6_24 : Cond.constant RX6 24 (131071) ∈ TT := tt_m (List.mem_of_getElem? (i := 747) (by decide +kernel)) rfl
theorem km_L_76 : Cond.methodLink RL 76 yL_page ∈ TT := tt_m (List.mem_of_getElem? (i := 748) (by decide +kernel)) rfl
theorem kS_L_page : Cond.static yL_page ∈ TT := tt_m (List.mem_of_getElem? (i := 749) (by decide +kernel)) rfl
theorem km_L_15 : Cond.methodLink RL 15 yX7_page ∈ TT := tt_m (List.mem_of_getElem? (i := 751) (by decide +kernel)) rfl
theorem kI_X7_page : Cond.instanceMethod yX7_page ∈ TT := tt_m (List.mem_of_getElem? (i := 752) (by decide +kernel)) rfl
theorem ks_X7_page : Cond.selects RX7 yX7_page yX7_page ∈ TT := tt_m (List.mem_of_getElem? (i := 753) (by decide +kernel)) rfl
theorem kC_X7_page : Cond.code yX7_page cX7_page 3 (some .int) ∈ TT := tt_m (List.mem_of_getElem? (i := 754) (by decide +kernel)) rfl
theorem km_X7_121 : Cond.methodLink RX7 121 yX0_has ∈ TT := tt_m (List.mem_of_getElem? (i := 755) (by decide +kernel)) rfl
theorem kI_X0_has : Cond.instanceMethod yX0_has ∈ TT := tt_m (List.mem_of_getElem? (i := 756) (by decide +kernel)) rfl
theorem ks_X0_has : Cond.selects RX0 yX0_has yX0_has ∈ TT := tt_m (List.mem_of_getElem? (i := 757) (by decide +kernel)) rfl
theorem kC_X0_has : Cond.code yX0_has cX0_has 2 (some .boolean) ∈ TT := tt_m (List.mem_of_getElem? (i := 758) (by decide +kernel)) rfl
theorem km_X7_125 : Cond.methodLink RX7 125 yX0_partOf ∈ TT := tt_m (List.mem_of_getElem? (i := 759) (by decide +kernel)) rfl
theorem kI_X0_partOf : Cond.instanceMethod yX0_partOf ∈ TT := tt_m (List.mem_of_getElem? (i := 760) (by decide +kernel)) rfl
theorem ks_X0_partOf : Cond.selects RX0 yX0_partOf yX0_partOf ∈ TT := tt_m (List.mem_of_getElem? (i := 761) (by decide +kernel)) rfl
theorem kC_X0_partOf : Cond.code yX0_partOf cX0_partOf 3 (some .int) ∈ TT := tt_m (List.mem_of_getElem? (i := 762) (by decide +kernel)) rfl
theorem km_L_79 : Cond.methodLink RL 79 yL_other ∈ TT := tt_m (List.mem_of_getElem? (i := 763) (by decide +kernel)) rfl
theorem kS_L_other : Cond.static yL_other ∈ TT := tt_m (List.mem_of_getElem? (i := 764) (by decide +kernel)) rfl
theorem kk_L_22 : Cond.classLink RL 22 "java/lang/IllegalStateException" ∈ TT := tt_m (List.mem_of_getElem? (i := 766) (by decide +kernel)) rfl
theorem km_L_18 : Cond.methodLink RL 18 yX7_other ∈ TT := tt_m (List.mem_of_getElem? (i := 767) (by decide +kernel)) rfl
theorem kI_X7_other : Cond.instanceMethod yX7_other ∈ TT := tt_m (List.mem_of_getElem? (i := 768) (by decide +kernel)) rfl
theorem ks_X7_other : Cond.selects RX7 yX7_other yX7_other ∈ TT := tt_m (List.mem_of_getElem? (i := 769) (by decide +kernel)) rfl
theorem kC_X7_other : Cond.code yX7_other cX7_other 2 (some .int) ∈ TT := tt_m (List.mem_of_getElem? (i := 770) (by decide +kernel)) rfl
theorem kk_X7_127 : Cond.classLink RX7 127 "java/lang/IllegalStateException" ∈ TT := tt_m (List.mem_of_getElem? (i := 771) (by decide +kernel)) rfl
theorem kN_IllegalStateException : Cond.instantiable "java/lang/IllegalStateException" 6 ∈ TT := tt_m (List.mem_of_getElem? (i := 772) (by decide +kernel)) rfl
theorem km_X7_129 : Cond.methodLink RX7 129 (⟨"java/lang/IllegalStateException", "<init>", "()V"⟩ : MethodName) ∈ TT := tt_m (List.mem_of_getElem? (i := 780) (by decide +kernel)) rfl
theorem kI_IllegalStateException__init_ : Cond.instanceMethod (⟨"java/lang/IllegalStateException", "<init>", "()V"⟩ : MethodName) ∈ TT := tt_m (List.mem_of_getElem? (i := 781) (by decide +kernel)) rfl
theorem km_IllegalStateException_1 : Cond.methodLink "java/lang/IllegalStateException" 1 (⟨"java/lang/RuntimeException", "<init>", "()V"⟩ : MethodName) ∈ TT := tt_m (List.mem_of_getElem? (i := 783) (by decide +kernel)) rfl
theorem km_X7_130 : Cond.methodLink RX7 130 yX3_firstPart ∈ TT := tt_m (List.mem_of_getElem? (i := 786) (by decide +kernel)) rfl
theorem kI_X3_firstPart : Cond.instanceMethod yX3_firstPart ∈ TT := tt_m (List.mem_of_getElem? (i := 787) (by decide +kernel)) rfl
theorem ks_X3_firstPart : Cond.selects RX3 yX3_firstPart yX3_firstPart ∈ TT := tt_m (List.mem_of_getElem? (i := 788) (by decide +kernel)) rfl
theorem kC_X3_firstPart : Cond.code yX3_firstPart cX3_firstPart 3 (some .int) ∈ TT := tt_m (List.mem_of_getElem? (i := 789) (by decide +kernel)) rfl
theorem km_L_83 : Cond.methodLink RL 83 yL_data ∈ TT := tt_m (List.mem_of_getElem? (i := 790) (by decide +kernel)) rfl
theorem kS_L_data : Cond.static yL_data ∈ TT := tt_m (List.mem_of_getElem? (i := 791) (by decide +kernel)) rfl
theorem km_L_24 : Cond.methodLink RL 24 yX7_data ∈ TT := tt_m (List.mem_of_getElem? (i := 793) (by decide +kernel)) rfl
theorem kI_X7_data : Cond.instanceMethod yX7_data ∈ TT := tt_m (List.mem_of_getElem? (i := 794) (by decide +kernel)) rfl
theorem ks_X7_data : Cond.selects RX7 yX7_data yX7_data ∈ TT := tt_m (List.mem_of_getElem? (i := 795) (by decide +kernel)) rfl
theorem kC_X7_data : Cond.code yX7_data cX7_data 2 (some .long) ∈ TT := tt_m (List.mem_of_getElem? (i := 796) (by decide +kernel)) rfl
theorem km_X7_134 : Cond.methodLink RX7 134 yX3_firstEightBytes ∈ TT := tt_m (List.mem_of_getElem? (i := 797) (by decide +kernel)) rfl
theorem kI_X3_firstEightBytes : Cond.instanceMethod yX3_firstEightBytes ∈ TT := tt_m (List.mem_of_getElem? (i := 798) (by decide +kernel)) rfl
theorem ks_X3_firstEightBytes : Cond.selects RX3 yX3_firstEightBytes yX3_firstEightBytes ∈ TT := tt_m (List.mem_of_getElem? (i := 799) (by decide +kernel)) rfl
theorem kC_X3_firstEightBytes : Cond.code yX3_firstEightBytes cX3_firstEightBytes 6 (some .long) ∈ TT := tt_m (List.mem_of_getElem? (i := 800) (by decide +kernel)) rfl
theorem km_L_91 : Cond.methodLink RL 91 yL_place ∈ TT := tt_m (List.mem_of_getElem? (i := 801) (by decide +kernel)) rfl
theorem kS_L_place : Cond.static yL_place ∈ TT := tt_m (List.mem_of_getElem? (i := 802) (by decide +kernel)) rfl
theorem km_L_28 : Cond.methodLink RL 28 yX7_place ∈ TT := tt_m (List.mem_of_getElem? (i := 804) (by decide +kernel)) rfl
theorem kI_X7_place : Cond.instanceMethod yX7_place ∈ TT := tt_m (List.mem_of_getElem? (i := 805) (by decide +kernel)) rfl
theorem ks_X7_place : Cond.selects RX7 yX7_place yX7_place ∈ TT := tt_m (List.mem_of_getElem? (i := 806) (by decide +kernel)) rfl
theorem kC_X7_place : Cond.code yX7_place cX7_place 3 (some .int) ∈ TT := tt_m (List.mem_of_getElem? (i := 807) (by decide +kernel)) rfl
theorem kk_L_33 : Cond.classLink RL 33 RX8 ∈ TT := tt_m (List.mem_of_getElem? (i := 808) (by decide +kernel)) rfl
theorem kN_X8 : Cond.instantiable RX8 33 ∈ TT := tt_m (List.mem_of_getElem? (i := 809) (by decide +kernel)) rfl
theorem km_L_35 : Cond.methodLink RL 35 yX8_init ∈ TT := tt_m (List.mem_of_getElem? (i := 810) (by decide +kernel)) rfl
theorem kI_X8_init : Cond.instanceMethod yX8_init ∈ TT := tt_m (List.mem_of_getElem? (i := 811) (by decide +kernel)) rfl
theorem kC_X8_init : Cond.code yX8_init cX8_init 2 none ∈ TT := tt_m (List.mem_of_getElem? (i := 812) (by decide +kernel)) rfl
theorem km_X8_1 : Cond.methodLink RX8 1 (⟨"java/lang/Object", "<init>", "()V"⟩ : MethodName) ∈ TT := tt_m (List.mem_of_getElem? (i := 813) (by decide +kernel)) rfl
theorem km_X8_36 : Cond.methodLink RX8 36 yX8_reset ∈ TT := tt_m (List.mem_of_getElem? (i := 814) (by decide +kernel)) rfl
theorem kI_X8_reset : Cond.instanceMethod yX8_reset ∈ TT := tt_m (List.mem_of_getElem? (i := 816) (by decide +kernel)) rfl
theorem kC_X8_reset : Cond.code yX8_reset cX8_reset 2 none ∈ TT := tt_m (List.mem_of_getElem? (i := 817) (by decide +kernel)) rfl
theorem km_X8_91 : Cond.methodLink RX8 91 yX8_defaults ∈ TT := tt_m (List.mem_of_getElem? (i := 818) (by decide +kernel)) rfl
theorem kI_X8_defaults : Cond.instanceMethod yX8_defaults ∈ TT := tt_m (List.mem_of_getElem? (i := 820) (by decide +kernel)) rfl
theorem kC_X8_defaults : Cond.code yX8_defaults cX8_defaults 1 none ∈ TT := tt_m (List.mem_of_getElem? (i := 821) (by decide +kernel)) rfl
theorem km_X8_74 : Cond.methodLink RX8 74 yX8_measure ∈ TT := tt_m (List.mem_of_getElem? (i := 822) (by decide +kernel)) rfl
theorem kI_X8_measure : Cond.instanceMethod yX8_measure ∈ TT := tt_m (List.mem_of_getElem? (i := 824) (by decide +kernel)) rfl
theorem kC_X8_measure : Cond.code yX8_measure cX8_measure 2 none ∈ TT := tt_m (List.mem_of_getElem? (i := 825) (by decide +kernel)) rfl
theorem km_X8_57 : Cond.methodLink RX8 57 yX8_down ∈ TT := tt_m (List.mem_of_getElem? (i := 826) (by decide +kernel)) rfl
theorem kS_X8_down : Cond.static yX8_down ∈ TT := tt_m (List.mem_of_getElem? (i := 827) (by decide +kernel)) rfl
theorem kC_X8_down : Cond.code yX8_down cX8_down 1 (some .int) ∈ TT := tt_m (List.mem_of_getElem? (i := 828) (by decide +kernel)) rfl
theorem kc_X8_47 : Cond.constant RX8 47 (75600) ∈ TT := tt_m (List.mem_of_getElem? (i := 829) (by decide +kernel)) rfl
theorem kc_X8_45 : Cond.constant RX8 45 (79200) ∈ TT := tt_m (List.mem_of_getElem? (i := 830) (by decide +kernel)) rfl
theorem kc_X8_48 : Cond.constant RX8 48 (100800) ∈ TT := tt_m (List.mem_of_getElem? (i := 831) (by decide +kernel)) rfl
theorem kc_X8_49 : Cond.constant RX8 49 (122400) ∈ TT := tt_m (List.mem_of_getElem? (i := 832) (by decide +kernel)) rfl
theorem kc_X8_50 : Cond.constant RX8 50 (84189) ∈ TT := tt_m (List.mem_of_getElem? (i := 833) (by decide +kernel)) rfl
theorem km_X8_61 : Cond.methodLink RX8 61 yX8_across ∈ TT := tt_m (List.mem_of_getElem? (i := 834) (by decide +kernel)) rfl
theorem kS_X8_across : Cond.static yX8_across ∈ TT := tt_m (List.mem_of_getElem? (i := 835) (by decide +kernel)) rfl
theorem kC_X8_across : Cond.code yX8_across cX8_across 1 (some .int) ∈ TT := tt_m (List.mem_of_getElem? (i := 836) (by decide +kernel)) rfl
theorem kc_X8_43 : Cond.constant RX8 43 (52200) ∈ TT := tt_m (List.mem_of_getElem? (i := 837) (by decide +kernel)) rfl
theorem kc_X8_44 : Cond.constant RX8 44 (61200) ∈ TT := tt_m (List.mem_of_getElem? (i := 838) (by decide +kernel)) rfl
theorem kc_X8_46 : Cond.constant RX8 46 (59528) ∈ TT := tt_m (List.mem_of_getElem? (i := 839) (by decide +kernel)) rfl
theorem km_X8_77 : Cond.methodLink RX8 77 yX8_setX ∈ TT := tt_m (List.mem_of_getElem? (i := 840) (by decide +kernel)) rfl
theorem kI_X8_setX : Cond.instanceMethod yX8_setX ∈ TT := tt_m (List.mem_of_getElem? (i := 842) (by decide +kernel)) rfl
theorem kC_X8_setX : Cond.code yX8_setX cX8_setX 3 none ∈ TT := tt_m (List.mem_of_getElem? (i := 843) (by decide +kernel)) rfl
theorem km_X8_70 : Cond.methodLink RX8 70 yX8_within ∈ TT := tt_m (List.mem_of_getElem? (i := 844) (by decide +kernel)) rfl
theorem kS_X8_within : Cond.static yX8_within ∈ TT := tt_m (List.mem_of_getElem? (i := 845) (by decide +kernel)) rfl
theorem kC_X8_within : Cond.code yX8_within cX8_within 3 (some .int) ∈ TT := tt_m (List.mem_of_getElem? (i := 846) (by decide +kernel)) rfl
theorem km_X8_81 : Cond.methodLink RX8 81 yX8_home ∈ TT := tt_m (List.mem_of_getElem? (i := 847) (by decide +kernel)) rfl
theorem kI_X8_home : Cond.instanceMethod yX8_home ∈ TT := tt_m (List.mem_of_getElem? (i := 849) (by decide +kernel)) rfl
theorem kC_X8_home : Cond.code yX8_home cX8_home 1 (some .int) ∈ TT := tt_m (List.mem_of_getElem? (i := 850) (by decide +kernel)) rfl
theorem km_X8_85 : Cond.methodLink RX8 85 yX8_setY ∈ TT := tt_m (List.mem_of_getElem? (i := 851) (by decide +kernel)) rfl
theorem kI_X8_setY : Cond.instanceMethod yX8_setY ∈ TT := tt_m (List.mem_of_getElem? (i := 853) (by decide +kernel)) rfl
theorem kC_X8_setY : Cond.code yX8_setY cX8_setY 3 none ∈ TT := tt_m (List.mem_of_getElem? (i := 854) (by decide +kernel)) rfl
theorem kf_X8_39 : Cond.fieldLink RX8 39 "PageDeskModel" "thrown" "I" ∈ TT := tt_m (List.mem_of_getElem? (i := 855) (by decide +kernel)) rfl
theorem kf_X8_7 : Cond.fieldLink RX8 7 "PageDeskModel" "state" "[I" ∈ TT := tt_m (List.mem_of_getElem? (i := 856) (by decide +kernel)) rfl
theorem kf_X8_13 : Cond.fieldLink RX8 13 "PageDeskModel" "kept" "[I" ∈ TT := tt_m (List.mem_of_getElem? (i := 857) (by decide +kernel)) rfl
theorem kf_X8_16 : Cond.fieldLink RX8 16 "PageDeskModel" "isKept" "[Z" ∈ TT := tt_m (List.mem_of_getElem? (i := 858) (by decide +kernel)) rfl
theorem kf_X8_54 : Cond.fieldLink RX8 54 "PageDeskModel" "size" "I" ∈ TT := tt_m (List.mem_of_getElem? (i := 859) (by decide +kernel)) rfl
theorem kf_X8_51 : Cond.fieldLink RX8 51 "PageDeskModel" "orientation" "I" ∈ TT := tt_m (List.mem_of_getElem? (i := 860) (by decide +kernel)) rfl
theorem kf_X8_88 : Cond.fieldLink RX8 88 "PageDeskModel" "copies" "I" ∈ TT := tt_m (List.mem_of_getElem? (i := 861) (by decide +kernel)) rfl
theorem kf_X8_64 : Cond.fieldLink RX8 64 "PageDeskModel" "width" "I" ∈ TT := tt_m (List.mem_of_getElem? (i := 862) (by decide +kernel)) rfl
theorem kf_X8_67 : Cond.fieldLink RX8 67 "PageDeskModel" "height" "I" ∈ TT := tt_m (List.mem_of_getElem? (i := 863) (by decide +kernel)) rfl
theorem kf_X8_20 : Cond.fieldLink RX8 20 "PageDeskModel" "steps" "[I" ∈ TT := tt_m (List.mem_of_getElem? (i := 864) (by decide +kernel)) rfl
theorem kf_X8_143 : Cond.fieldLink RX8 143 "PageDeskModel" "phase" "I" ∈ TT := tt_m (List.mem_of_getElem? (i := 865) (by decide +kernel)) rfl
theorem kf_X8_149 : Cond.fieldLink RX8 149 "PageDeskModel" "family" "I" ∈ TT := tt_m (List.mem_of_getElem? (i := 866) (by decide +kernel)) rfl
theorem kf_X8_152 : Cond.fieldLink RX8 152 "PageDeskModel" "group" "I" ∈ TT := tt_m (List.mem_of_getElem? (i := 867) (by decide +kernel)) rfl
theorem kf_X8_125 : Cond.fieldLink RX8 125 "PageDeskModel" "part" "I" ∈ TT := tt_m (List.mem_of_getElem? (i := 868) (by decide +kernel)) rfl
theorem kf_X8_128 : Cond.fieldLink RX8 128 "PageDeskModel" "signed" "Z" ∈ TT := tt_m (List.mem_of_getElem? (i := 869) (by decide +kernel)) rfl
theorem kf_X8_131 : Cond.fieldLink RX8 131 "PageDeskModel" "negative" "Z" ∈ TT := tt_m (List.mem_of_getElem? (i := 870) (by decide +kernel)) rfl
theorem kf_X8_134 : Cond.fieldLink RX8 134 "PageDeskModel" "whole" "I" ∈ TT := tt_m (List.mem_of_getElem? (i := 871) (by decide +kernel)) rfl
theorem kf_X8_137 : Cond.fieldLink RX8 137 "PageDeskModel" "behind" "I" ∈ TT := tt_m (List.mem_of_getElem? (i := 872) (by decide +kernel)) rfl
theorem kf_X8_140 : Cond.fieldLink RX8 140 "PageDeskModel" "places" "I" ∈ TT := tt_m (List.mem_of_getElem? (i := 873) (by decide +kernel)) rfl
theorem kf_X8_165 : Cond.fieldLink RX8 165 "PageDeskModel" "dataLeft" "I" ∈ TT := tt_m (List.mem_of_getElem? (i := 874) (by decide +kernel)) rfl
theorem kf_X8_162 : Cond.fieldLink RX8 162 "PageDeskModel" "last" "Z" ∈ TT := tt_m (List.mem_of_getElem? (i := 875) (by decide +kernel)) rfl
theorem kf_X8_168 : Cond.fieldLink RX8 168 "PageDeskModel" "dataTo" "I" ∈ TT := tt_m (List.mem_of_getElem? (i := 876) (by decide +kernel)) rfl
theorem kf_X8_191 : Cond.fieldLink RX8 191 "PageDeskModel" "bytesCame" "I" ∈ TT := tt_m (List.mem_of_getElem? (i := 877) (by decide +kernel)) rfl
theorem kf_X8_100 : Cond.fieldLink RX8 100 "PageDeskModel" "glyphs" "I" ∈ TT := tt_m (List.mem_of_getElem? (i := 878) (by decide +kernel)) rfl
theorem kf_X8_97 : Cond.fieldLink RX8 97 "PageDeskModel" "allGlyphs" "I" ∈ TT := tt_m (List.mem_of_getElem? (i := 879) (by decide +kernel)) rfl
theorem kf_X8_103 : Cond.fieldLink RX8 103 "PageDeskModel" "touched" "Z" ∈ TT := tt_m (List.mem_of_getElem? (i := 880) (by decide +kernel)) rfl
theorem kf_X8_23 : Cond.fieldLink RX8 23 "PageDeskModel" "glyph" "[I" ∈ TT := tt_m (List.mem_of_getElem? (i := 881) (by decide +kernel)) rfl
theorem kf_X8_94 : Cond.fieldLink RX8 94 "PageDeskModel" "pages" "I" ∈ TT := tt_m (List.mem_of_getElem? (i := 882) (by decide +kernel)) rfl
theorem kf_X8_26 : Cond.fieldLink RX8 26 "PageDeskModel" "page" "[I" ∈ TT := tt_m (List.mem_of_getElem? (i := 883) (by decide +kernel)) rfl
theorem kf_X8_182 : Cond.fieldLink RX8 182 "PageDeskModel" "others" "I" ∈ TT := tt_m (List.mem_of_getElem? (i := 884) (by decide +kernel)) rfl
theorem kf_X8_29 : Cond.fieldLink RX8 29 "PageDeskModel" "other" "[I" ∈ TT := tt_m (List.mem_of_getElem? (i := 885) (by decide +kernel)) rfl
theorem kf_X8_188 : Cond.fieldLink RX8 188 "PageDeskModel" "stored" "I" ∈ TT := tt_m (List.mem_of_getElem? (i := 886) (by decide +kernel)) rfl
theorem kf_X8_32 : Cond.fieldLink RX8 32 "PageDeskModel" "store" "[B" ∈ TT := tt_m (List.mem_of_getElem? (i := 887) (by decide +kernel)) rfl
theorem km_L_72 : Cond.methodLink RL 72 yX8_thrown ∈ TT := tt_m (List.mem_of_getElem? (i := 955) (by decide +kernel)) rfl
theorem kI_X8_thrown : Cond.instanceMethod yX8_thrown ∈ TT := tt_m (List.mem_of_getElem? (i := 956) (by decide +kernel)) rfl
theorem ks_X8_thrown : Cond.selects RX8 yX8_thrown yX8_thrown ∈ TT := tt_m (List.mem_of_getElem? (i := 957) (by decide +kernel)) rfl
theorem kC_X8_thrown : Cond.code yX8_thrown cX8_thrown 1 (some .int) ∈ TT := tt_m (List.mem_of_getElem? (i := 958) (by decide +kernel)) rfl
theorem km_L_42 : Cond.methodLink RL 42 yX8_feed ∈ TT := tt_m (List.mem_of_getElem? (i := 959) (by decide +kernel)) rfl
theorem kI_X8_feed : Cond.instanceMethod yX8_feed ∈ TT := tt_m (List.mem_of_getElem? (i := 960) (by decide +kernel)) rfl
theorem ks_X8_feed : Cond.selects RX8 yX8_feed yX8_feed ∈ TT := tt_m (List.mem_of_getElem? (i := 961) (by decide +kernel)) rfl
theorem kC_X8_feed : Cond.code yX8_feed cX8_feed 5 (some .boolean) ∈ TT := tt_m (List.mem_of_getElem? (i := 962) (by decide +kernel)) rfl
theorem kc_X8_206 : Cond.constantLong RX8 206 (255) ∈ TT := tt_m (List.mem_of_getElem? (i := 963) (by decide +kernel)) rfl
theorem km_X8_208 : Cond.methodLink RX8 208 yX8_comes ∈ TT := tt_m (List.mem_of_getElem? (i := 964) (by decide +kernel)) rfl
theorem kI_X8_comes : Cond.instanceMethod yX8_comes ∈ TT := tt_m (List.mem_of_getElem? (i := 966) (by decide +kernel)) rfl
theorem kC_X8_comes : Cond.code yX8_comes cX8_comes 2 none ∈ TT := tt_m (List.mem_of_getElem? (i := 967) (by decide +kernel)) rfl
theorem km_X8_194 : Cond.methodLink RX8 194 yX8_datum ∈ TT := tt_m (List.mem_of_getElem? (i := 968) (by decide +kernel)) rfl
theorem kI_X8_datum : Cond.instanceMethod yX8_datum ∈ TT := tt_m (List.mem_of_getElem? (i := 970) (by decide +kernel)) rfl
theorem kC_X8_datum : Cond.code yX8_datum cX8_datum 3 none ∈ TT := tt_m (List.mem_of_getElem? (i := 971) (by decide +kernel)) rfl
theorem km_X8_185 : Cond.methodLink RX8 185 yX8_character ∈ TT := tt_m (List.mem_of_getElem? (i := 972) (by decide +kernel)) rfl
theorem kI_X8_character : Cond.instanceMethod yX8_character ∈ TT := tt_m (List.mem_of_getElem? (i := 974) (by decide +kernel)) rfl
theorem kC_X8_character : Cond.code yX8_character cX8_character 4 none ∈ TT := tt_m (List.mem_of_getElem? (i := 975) (by decide +kernel)) rfl
theorem km_X8_110 : Cond.methodLink RX8 110 yX8_carriageReturn ∈ TT := tt_m (List.mem_of_getElem? (i := 976) (by decide +kernel)) rfl
theorem kI_X8_carriageReturn : Cond.instanceMethod yX8_carriageReturn ∈ TT := tt_m (List.mem_of_getElem? (i := 978) (by decide +kernel)) rfl
theorem kC_X8_carriageReturn : Cond.code yX8_carriageReturn cX8_carriageReturn 1 none ∈ TT := tt_m (List.mem_of_getElem? (i := 979) (by decide +kernel)) rfl
theorem km_X8_113 : Cond.methodLink RX8 113 yX8_lineFeed ∈ TT := tt_m (List.mem_of_getElem? (i := 980) (by decide +kernel)) rfl
theorem kI_X8_lineFeed : Cond.instanceMethod yX8_lineFeed ∈ TT := tt_m (List.mem_of_getElem? (i := 982) (by decide +kernel)) rfl
theorem kC_X8_lineFeed : Cond.code yX8_lineFeed cX8_lineFeed 4 none ∈ TT := tt_m (List.mem_of_getElem? (i := 983) (by decide +kernel)) rfl
theorem km_X8_107 : Cond.methodLink RX8 107 yX8_eject ∈ TT := tt_m (List.mem_of_getElem? (i := 984) (by decide +kernel)) rfl
theorem kI_X8_eject : Cond.instanceMethod yX8_eject ∈ TT := tt_m (List.mem_of_getElem? (i := 986) (by decide +kernel)) rfl
theorem kC_X8_eject : Cond.code yX8_eject cX8_eject 2 none ∈ TT := tt_m (List.mem_of_getElem? (i := 987) (by decide +kernel)) rfl
theorem km_X8_197 : Cond.methodLink RX8 197 yX8_behindEsc ∈ TT := tt_m (List.mem_of_getElem? (i := 988) (by decide +kernel)) rfl
theorem kI_X8_behindEsc : Cond.instanceMethod yX8_behindEsc ∈ TT := tt_m (List.mem_of_getElem? (i := 990) (by decide +kernel)) rfl
theorem kC_X8_behindEsc : Cond.code yX8_behindEsc cX8_behindEsc 2 none ∈ TT := tt_m (List.mem_of_getElem? (i := 991) (by decide +kernel)) rfl
theorem km_X8_146 : Cond.methodLink RX8 146 yX8_shortSequence ∈ TT := tt_m (List.mem_of_getElem? (i := 992) (by decide +kernel)) rfl
theorem kI_X8_shortSequence : Cond.instanceMethod yX8_shortSequence ∈ TT := tt_m (List.mem_of_getElem? (i := 994) (by decide +kernel)) rfl
theorem kC_X8_shortSequence : Cond.code yX8_shortSequence cX8_shortSequence 2 none ∈ TT := tt_m (List.mem_of_getElem? (i := 995) (by decide +kernel)) rfl
theorem km_X8_122 : Cond.methodLink RX8 122 yX8_ejectIfDue ∈ TT := tt_m (List.mem_of_getElem? (i := 996) (by decide +kernel)) rfl
theorem kI_X8_ejectIfDue : Cond.instanceMethod yX8_ejectIfDue ∈ TT := tt_m (List.mem_of_getElem? (i := 998) (by decide +kernel)) rfl
theorem kC_X8_ejectIfDue : Cond.code yX8_ejectIfDue cX8_ejectIfDue 1 none ∈ TT := tt_m (List.mem_of_getElem? (i := 999) (by decide +kernel)) rfl
theorem km_X8_179 : Cond.methodLink RX8 179 yX8_beginField ∈ TT := tt_m (List.mem_of_getElem? (i := 1000) (by decide +kernel)) rfl
theorem kI_X8_beginField : Cond.instanceMethod yX8_beginField ∈ TT := tt_m (List.mem_of_getElem? (i := 1002) (by decide +kernel)) rfl
theorem kC_X8_beginField : Cond.code yX8_beginField cX8_beginField 1 none ∈ TT := tt_m (List.mem_of_getElem? (i := 1003) (by decide +kernel)) rfl
theorem km_X8_200 : Cond.methodLink RX8 200 yX8_field ∈ TT := tt_m (List.mem_of_getElem? (i := 1004) (by decide +kernel)) rfl
theorem kI_X8_field : Cond.instanceMethod yX8_field ∈ TT := tt_m (List.mem_of_getElem? (i := 1006) (by decide +kernel)) rfl
theorem kC_X8_field : Cond.code yX8_field cX8_field 3 none ∈ TT := tt_m (List.mem_of_getElem? (i := 1007) (by decide +kernel)) rfl
theorem km_X8_155 : Cond.methodLink RX8 155 yX8_command ∈ TT := tt_m (List.mem_of_getElem? (i := 1008) (by decide +kernel)) rfl
theorem kI_X8_command : Cond.instanceMethod yX8_command ∈ TT := tt_m (List.mem_of_getElem? (i := 1010) (by decide +kernel)) rfl
theorem kC_X8_command : Cond.code yX8_command cX8_command 6 none ∈ TT := tt_m (List.mem_of_getElem? (i := 1011) (by decide +kernel)) rfl
theorem km_X8_159 : Cond.methodLink RX8 159 yX8_value ∈ TT := tt_m (List.mem_of_getElem? (i := 1012) (by decide +kernel)) rfl
theorem kI_X8_value : Cond.instanceMethod yX8_value ∈ TT := tt_m (List.mem_of_getElem? (i := 1014) (by decide +kernel)) rfl
theorem kC_X8_value : Cond.code yX8_value cX8_value 3 (some .int) ∈ TT := tt_m (List.mem_of_getElem? (i := 1015) (by decide +kernel)) rfl
theorem km_X8_171 : Cond.methodLink RX8 171 yX8_known ∈ TT := tt_m (List.mem_of_getElem? (i := 1016) (by decide +kernel)) rfl
theorem kI_X8_known : Cond.instanceMethod yX8_known ∈ TT := tt_m (List.mem_of_getElem? (i := 1018) (by decide +kernel)) rfl
theorem kC_X8_known : Cond.code yX8_known cX8_known 8 (some .boolean) ∈ TT := tt_m (List.mem_of_getElem? (i := 1019) (by decide +kernel)) rfl
theorem km_X8_211 : Cond.methodLink RX8 211 yX8_paging ∈ TT := tt_m (List.mem_of_getElem? (i := 1020) (by decide +kernel)) rfl
theorem kI_X8_paging : Cond.instanceMethod yX8_paging ∈ TT := tt_m (List.mem_of_getElem? (i := 1022) (by decide +kernel)) rfl
theorem kC_X8_paging : Cond.code yX8_paging cX8_paging 5 (some .boolean) ∈ TT := tt_m (List.mem_of_getElem? (i := 1023) (by decide +kernel)) rfl
theorem kc_X8_234 : Cond.constantLong RX8 234 (150) ∈ TT := tt_m (List.mem_of_getElem? (i := 1024) (by decide +kernel)) rfl
theorem kc_X8_221 : Cond.constantLong RX8 221 (10000) ∈ TT := tt_m (List.mem_of_getElem? (i := 1025) (by decide +kernel)) rfl
theorem km_X8_236 : Cond.methodLink RX8 236 yX8_divides ∈ TT := tt_m (List.mem_of_getElem? (i := 1026) (by decide +kernel)) rfl
theorem kS_X8_divides : Cond.static yX8_divides ∈ TT := tt_m (List.mem_of_getElem? (i := 1027) (by decide +kernel)) rfl
theorem kC_X8_divides : Cond.code yX8_divides cX8_divides 1 (some .boolean) ∈ TT := tt_m (List.mem_of_getElem? (i := 1028) (by decide +kernel)) rfl
theorem km_X8_215 : Cond.methodLink RX8 215 yX8_is ∈ TT := tt_m (List.mem_of_getElem? (i := 1029) (by decide +kernel)) rfl
theorem kI_X8_is : Cond.instanceMethod yX8_is ∈ TT := tt_m (List.mem_of_getElem? (i := 1031) (by decide +kernel)) rfl
theorem kC_X8_is : Cond.code yX8_is cX8_is 5 (some .boolean) ∈ TT := tt_m (List.mem_of_getElem? (i := 1032) (by decide +kernel)) rfl
theorem kc_X8_219 : Cond.constantLong RX8 219 (60) ∈ TT := tt_m (List.mem_of_getElem? (i := 1033) (by decide +kernel)) rfl
theorem km_X8_223 : Cond.methodLink RX8 223 yX8_stack ∈ TT := tt_m (List.mem_of_getElem? (i := 1034) (by decide +kernel)) rfl
theorem kI_X8_stack : Cond.instanceMethod yX8_stack ∈ TT := tt_m (List.mem_of_getElem? (i := 1036) (by decide +kernel)) rfl
theorem kC_X8_stack : Cond.code yX8_stack cX8_stack 3 none ∈ TT := tt_m (List.mem_of_getElem? (i := 1037) (by decide +kernel)) rfl
theorem km_X8_226 : Cond.methodLink RX8 226 yX8_cursor ∈ TT := tt_m (List.mem_of_getElem? (i := 1038) (by decide +kernel)) rfl
theorem kI_X8_cursor : Cond.instanceMethod yX8_cursor ∈ TT := tt_m (List.mem_of_getElem? (i := 1040) (by decide +kernel)) rfl
theorem kC_X8_cursor : Cond.code yX8_cursor cX8_cursor 11 (some .boolean) ∈ TT := tt_m (List.mem_of_getElem? (i := 1041) (by decide +kernel)) rfl
theorem kc_X8_230 : Cond.constantLong RX8 230 (24) ∈ TT := tt_m (List.mem_of_getElem? (i := 1042) (by decide +kernel)) rfl
theorem kc_X8_232 : Cond.constantLong RX8 232 (10) ∈ TT := tt_m (List.mem_of_getElem? (i := 1043) (by decide +kernel)) rfl
theorem km_X8_175 : Cond.methodLink RX8 175 yX8_handOn ∈ TT := tt_m (List.mem_of_getElem? (i := 1044) (by decide +kernel)) rfl
theorem kI_X8_handOn : Cond.instanceMethod yX8_handOn ∈ TT := tt_m (List.mem_of_getElem? (i := 1046) (by decide +kernel)) rfl
theorem kC_X8_handOn : Cond.code yX8_handOn cX8_handOn 4 none ∈ TT := tt_m (List.mem_of_getElem? (i := 1047) (by decide +kernel)) rfl
theorem km_X8_203 : Cond.methodLink RX8 203 yX8_control ∈ TT := tt_m (List.mem_of_getElem? (i := 1048) (by decide +kernel)) rfl
theorem kI_X8_control : Cond.instanceMethod yX8_control ∈ TT := tt_m (List.mem_of_getElem? (i := 1050) (by decide +kernel)) rfl
theorem kC_X8_control : Cond.code yX8_control cX8_control 6 none ∈ TT := tt_m (List.mem_of_getElem? (i := 1051) (by decide +kernel)) rfl
theorem km_X8_119 : Cond.methodLink RX8 119 yX8_tab ∈ TT := tt_m (List.mem_of_getElem? (i := 1052) (by decide +kernel)) rfl
theorem kI_X8_tab : Cond.instanceMethod yX8_tab ∈ TT := tt_m (List.mem_of_getElem? (i := 1054) (by decide +kernel)) rfl
theorem kC_X8_tab : Cond.code yX8_tab cX8_tab 5 none ∈ TT := tt_m (List.mem_of_getElem? (i := 1055) (by decide +kernel)) rfl
theorem kc_X8_117 : Cond.constantLong RX8 117 (8) ∈ TT := tt_m (List.mem_of_getElem? (i := 1056) (by decide +kernel)) rfl
theorem km_L_47 : Cond.methodLink RL 47 yX8_advance ∈ TT := tt_m (List.mem_of_getElem? (i := 1057) (by decide +kernel)) rfl
theorem kI_X8_advance : Cond.instanceMethod yX8_advance ∈ TT := tt_m (List.mem_of_getElem? (i := 1058) (by decide +kernel)) rfl
theorem ks_X8_advance : Cond.selects RX8 yX8_advance yX8_advance ∈ TT := tt_m (List.mem_of_getElem? (i := 1059) (by decide +kernel)) rfl
theorem kC_X8_advance : Cond.code yX8_advance cX8_advance 4 (some .boolean) ∈ TT := tt_m (List.mem_of_getElem? (i := 1060) (by decide +kernel)) rfl
theorem km_L_56 : Cond.methodLink RL 56 yX8_move ∈ TT := tt_m (List.mem_of_getElem? (i := 1061) (by decide +kernel)) rfl
theorem kI_X8_move : Cond.instanceMethod yX8_move ∈ TT := tt_m (List.mem_of_getElem? (i := 1062) (by decide +kernel)) rfl
theorem ks_X8_move : Cond.selects RX8 yX8_move yX8_move ∈ TT := tt_m (List.mem_of_getElem? (i := 1063) (by decide +kernel)) rfl
theorem kC_X8_move : Cond.code yX8_move cX8_move 3 none ∈ TT := tt_m (List.mem_of_getElem? (i := 1064) (by decide +kernel)) rfl
theorem km_L_51 : Cond.methodLink RL 51 yX8_due ∈ TT := tt_m (List.mem_of_getElem? (i := 1065) (by decide +kernel)) rfl
theorem kI_X8_due : Cond.instanceMethod yX8_due ∈ TT := tt_m (List.mem_of_getElem? (i := 1066) (by decide +kernel)) rfl
theorem ks_X8_due : Cond.selects RX8 yX8_due yX8_due ∈ TT := tt_m (List.mem_of_getElem? (i := 1067) (by decide +kernel)) rfl
theorem kC_X8_due : Cond.code yX8_due cX8_due 1 none ∈ TT := tt_m (List.mem_of_getElem? (i := 1068) (by decide +kernel)) rfl
theorem km_L_61 : Cond.methodLink RL 61 yX8_keep ∈ TT := tt_m (List.mem_of_getElem? (i := 1069) (by decide +kernel)) rfl
theorem kI_X8_keep : Cond.instanceMethod yX8_keep ∈ TT := tt_m (List.mem_of_getElem? (i := 1070) (by decide +kernel)) rfl
theorem ks_X8_keep : Cond.selects RX8 yX8_keep yX8_keep ∈ TT := tt_m (List.mem_of_getElem? (i := 1071) (by decide +kernel)) rfl
theorem kC_X8_keep : Cond.code yX8_keep cX8_keep 3 (some .boolean) ∈ TT := tt_m (List.mem_of_getElem? (i := 1072) (by decide +kernel)) rfl
theorem km_L_65 : Cond.methodLink RL 65 yX8_bring ∈ TT := tt_m (List.mem_of_getElem? (i := 1073) (by decide +kernel)) rfl
theorem kI_X8_bring : Cond.instanceMethod yX8_bring ∈ TT := tt_m (List.mem_of_getElem? (i := 1074) (by decide +kernel)) rfl
theorem ks_X8_bring : Cond.selects RX8 yX8_bring yX8_bring ∈ TT := tt_m (List.mem_of_getElem? (i := 1075) (by decide +kernel)) rfl
theorem kC_X8_bring : Cond.code yX8_bring cX8_bring 3 (some .boolean) ∈ TT := tt_m (List.mem_of_getElem? (i := 1076) (by decide +kernel)) rfl
theorem km_L_71 : Cond.methodLink RL 71 yX8_glyph ∈ TT := tt_m (List.mem_of_getElem? (i := 1077) (by decide +kernel)) rfl
theorem kI_X8_glyph : Cond.instanceMethod yX8_glyph ∈ TT := tt_m (List.mem_of_getElem? (i := 1078) (by decide +kernel)) rfl
theorem ks_X8_glyph : Cond.selects RX8 yX8_glyph yX8_glyph ∈ TT := tt_m (List.mem_of_getElem? (i := 1079) (by decide +kernel)) rfl
theorem kC_X8_glyph : Cond.code yX8_glyph cX8_glyph 3 (some .int) ∈ TT := tt_m (List.mem_of_getElem? (i := 1080) (by decide +kernel)) rfl
theorem km_L_78 : Cond.methodLink RL 78 yX8_page ∈ TT := tt_m (List.mem_of_getElem? (i := 1081) (by decide +kernel)) rfl
theorem kI_X8_page : Cond.instanceMethod yX8_page ∈ TT := tt_m (List.mem_of_getElem? (i := 1082) (by decide +kernel)) rfl
theorem ks_X8_page : Cond.selects RX8 yX8_page yX8_page ∈ TT := tt_m (List.mem_of_getElem? (i := 1083) (by decide +kernel)) rfl
theorem kC_X8_page : Cond.code yX8_page cX8_page 3 (some .int) ∈ TT := tt_m (List.mem_of_getElem? (i := 1084) (by decide +kernel)) rfl
theorem km_L_82 : Cond.methodLink RL 82 yX8_other ∈ TT := tt_m (List.mem_of_getElem? (i := 1085) (by decide +kernel)) rfl
theorem kI_X8_other : Cond.instanceMethod yX8_other ∈ TT := tt_m (List.mem_of_getElem? (i := 1086) (by decide +kernel)) rfl
theorem ks_X8_other : Cond.selects RX8 yX8_other yX8_other ∈ TT := tt_m (List.mem_of_getElem? (i := 1087) (by decide +kernel)) rfl
theorem kC_X8_other : Cond.code yX8_other cX8_other 2 (some .int) ∈ TT := tt_m (List.mem_of_getElem? (i := 1088) (by decide +kernel)) rfl
theorem km_L_85 : Cond.methodLink RL 85 yX8_data ∈ TT := tt_m (List.mem_of_getElem? (i := 1089) (by decide +kernel)) rfl
theorem kI_X8_data : Cond.instanceMethod yX8_data ∈ TT := tt_m (List.mem_of_getElem? (i := 1090) (by decide +kernel)) rfl
theorem ks_X8_data : Cond.selects RX8 yX8_data yX8_data ∈ TT := tt_m (List.mem_of_getElem? (i := 1091) (by decide +kernel)) rfl
theorem kC_X8_data : Cond.code yX8_data cX8_data 6 (some .long) ∈ TT := tt_m (List.mem_of_getElem? (i := 1092) (by decide +kernel)) rfl
theorem km_L_90 : Cond.methodLink RL 90 yX8_take ∈ TT := tt_m (List.mem_of_getElem? (i := 1093) (by decide +kernel)) rfl
theorem kI_X8_take : Cond.instanceMethod yX8_take ∈ TT := tt_m (List.mem_of_getElem? (i := 1094) (by decide +kernel)) rfl
theorem ks_X8_take : Cond.selects RX8 yX8_take yX8_take ∈ TT := tt_m (List.mem_of_getElem? (i := 1095) (by decide +kernel)) rfl
theorem kC_X8_take : Cond.code yX8_take cX8_take 3 (some .boolean) ∈ TT := tt_m (List.mem_of_getElem? (i := 1096) (by decide +kernel)) rfl
theorem km_L_94 : Cond.methodLink RL 94 yX8_place ∈ TT := tt_m (List.mem_of_getElem? (i := 1097) (by decide +kernel)) rfl
theorem kI_X8_place : Cond.instanceMethod yX8_place ∈ TT := tt_m (List.mem_of_getElem? (i := 1098) (by decide +kernel)) rfl
theorem ks_X8_place : Cond.selects RX8 yX8_place yX8_place ∈ TT := tt_m (List.mem_of_getElem? (i := 1099) (by decide +kernel)) rfl
theorem kC_X8_place : Cond.code yX8_place cX8_place 3 (some .int) ∈ TT := tt_m (List.mem_of_getElem? (i := 1100) (by decide +kernel)) rfl
theorem km_L_98 : Cond.methodLink RL 98 yX8_look ∈ TT := tt_m (List.mem_of_getElem? (i := 1101) (by decide +kernel)) rfl
theorem kI_X8_look : Cond.instanceMethod yX8_look ∈ TT := tt_m (List.mem_of_getElem? (i := 1102) (by decide +kernel)) rfl
theorem ks_X8_look : Cond.selects RX8 yX8_look yX8_look ∈ TT := tt_m (List.mem_of_getElem? (i := 1103) (by decide +kernel)) rfl
theorem kC_X8_look : Cond.code yX8_look cX8_look 2 (some .int) ∈ TT := tt_m (List.mem_of_getElem? (i := 1104) (by decide +kernel)) rfl
theorem kc_L_36 : Cond.constantLong RL 36 (4294967295) ∈ TT := tt_m (List.mem_of_getElem? (i := 1105) (by decide +kernel)) rfl
theorem iX0 : ∀ w ∈ u_ws RX0 TX0 2, w ∈ TT := by decide +kernel
theorem iX1 : ∀ w ∈ u_ws RX1 TX1 15, w ∈ TT := by decide +kernel
theorem iX2 : ∀ w ∈ u_ws RX2 TX2 7, w ∈ TT := by decide +kernel
theorem iX3 : ∀ w ∈ u_ws RX3 TX3 7, w ∈ TT := by decide +kernel
theorem iX4 : ∀ w ∈ u_ws RX4 TX4 5, w ∈ TT := by decide +kernel
theorem iX5 : ∀ w ∈ u_ws RX5 TX5 13, w ∈ TT := by decide +kernel
theorem iX6 : ∀ w ∈ u_ws RX6 TX6 4, w ∈ TT := by decide +kernel
theorem iX7 : ∀ w ∈ u_ws RX7 TX7 10, w ∈ TT := by decide +kernel
theorem iX8 : ∀ w ∈ u_ws RX8 TX8 33, w ∈ TT := by decide +kernel
