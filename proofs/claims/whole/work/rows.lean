section
-- ===== PART A: goes FIRST, ahead of the names: the tables' words, and 'selects' of the private methods out of them =====
/-- a private method of a class that the tables say can be made, by its rows of tables_1 -/
def lw_okq (q : MethodName × Nat) : Prop := (q.1.cls ≠ "java/lang/invoke/MethodHandle" ∧ q.1.cls ≠ "java/lang/invoke/VarHandle") ∧ Cond.instantiable q.1.cls q.2 ∈ tables_1 ∧ Cond.privateMethod q.1 ∈ tables_1 ∧ Cond.instanceMethod q.1 ∈ tables_1
theorem lw_p0 : lw_okq (⟨"PageDesk", "reset", "()V"⟩, 10) := ⟨⟨by decide +kernel, by decide +kernel⟩, List.mem_of_getElem? (i := 19) (by decide +kernel), List.mem_of_getElem? (i := 282) (by decide +kernel), List.mem_of_getElem? (i := 283) (by decide +kernel)⟩
theorem lw_p1 : lw_okq (⟨"PageDesk$Paper", "longSide", "()I"⟩, 5) := ⟨⟨by decide +kernel, by decide +kernel⟩, List.mem_of_getElem? (i := 84) (by decide +kernel), List.mem_of_getElem? (i := 290) (by decide +kernel), List.mem_of_getElem? (i := 291) (by decide +kernel)⟩
theorem lw_p2 : lw_okq (⟨"PageDesk$Paper", "shortSide", "()I"⟩, 5) := ⟨⟨by decide +kernel, by decide +kernel⟩, List.mem_of_getElem? (i := 84) (by decide +kernel), List.mem_of_getElem? (i := 299) (by decide +kernel), List.mem_of_getElem? (i := 300) (by decide +kernel)⟩
theorem lw_p3 : lw_okq (⟨"PageDesk", "setDefaults", "()V"⟩, 10) := ⟨⟨by decide +kernel, by decide +kernel⟩, List.mem_of_getElem? (i := 19) (by decide +kernel), List.mem_of_getElem? (i := 306) (by decide +kernel), List.mem_of_getElem? (i := 307) (by decide +kernel)⟩
theorem lw_p4 : lw_okq (⟨"PageDesk", "setY", "(J)V"⟩, 10) := ⟨⟨by decide +kernel, by decide +kernel⟩, List.mem_of_getElem? (i := 19) (by decide +kernel), List.mem_of_getElem? (i := 314) (by decide +kernel), List.mem_of_getElem? (i := 315) (by decide +kernel)⟩
theorem lw_p5 : lw_okq (⟨"PageDesk", "byteComes", "(I)V"⟩, 10) := ⟨⟨by decide +kernel, by decide +kernel⟩, List.mem_of_getElem? (i := 19) (by decide +kernel), List.mem_of_getElem? (i := 356) (by decide +kernel), List.mem_of_getElem? (i := 357) (by decide +kernel)⟩
theorem lw_p6 : lw_okq (⟨"PageDesk$Parser", "behindEsc", "(I)I"⟩, 13) := ⟨⟨by decide +kernel, by decide +kernel⟩, List.mem_of_getElem? (i := 27) (by decide +kernel), List.mem_of_getElem? (i := 368) (by decide +kernel), List.mem_of_getElem? (i := 369) (by decide +kernel)⟩
theorem lw_p7 : lw_okq (⟨"PageDesk$Parser", "behindFamily", "(I)I"⟩, 13) := ⟨⟨by decide +kernel, by decide +kernel⟩, List.mem_of_getElem? (i := 27) (by decide +kernel), List.mem_of_getElem? (i := 372) (by decide +kernel), List.mem_of_getElem? (i := 373) (by decide +kernel)⟩
theorem lw_p8 : lw_okq (⟨"PageDesk$Parser", "beginField", "()V"⟩, 13) := ⟨⟨by decide +kernel, by decide +kernel⟩, List.mem_of_getElem? (i := 27) (by decide +kernel), List.mem_of_getElem? (i := 376) (by decide +kernel), List.mem_of_getElem? (i := 377) (by decide +kernel)⟩
theorem lw_p9 : lw_okq (⟨"PageDesk$Parser", "inField", "(I)I"⟩, 13) := ⟨⟨by decide +kernel, by decide +kernel⟩, List.mem_of_getElem? (i := 27) (by decide +kernel), List.mem_of_getElem? (i := 380) (by decide +kernel), List.mem_of_getElem? (i := 381) (by decide +kernel)⟩
theorem lw_p10 : lw_okq (⟨"PageDesk$Parser", "endField", "(I)V"⟩, 13) := ⟨⟨by decide +kernel, by decide +kernel⟩, List.mem_of_getElem? (i := 27) (by decide +kernel), List.mem_of_getElem? (i := 384) (by decide +kernel), List.mem_of_getElem? (i := 385) (by decide +kernel)⟩
theorem lw_p11 : lw_okq (⟨"PageDesk$Parser", "belongsToValue", "(I)Z"⟩, 13) := ⟨⟨by decide +kernel, by decide +kernel⟩, List.mem_of_getElem? (i := 27) (by decide +kernel), List.mem_of_getElem? (i := 388) (by decide +kernel), List.mem_of_getElem? (i := 389) (by decide +kernel)⟩
theorem lw_p12 : lw_okq (⟨"PageDesk$Parser", "digit", "(I)V"⟩, 13) := ⟨⟨by decide +kernel, by decide +kernel⟩, List.mem_of_getElem? (i := 27) (by decide +kernel), List.mem_of_getElem? (i := 392) (by decide +kernel), List.mem_of_getElem? (i := 393) (by decide +kernel)⟩
theorem lw_p13 : lw_okq (⟨"PageDesk", "character", "(I)V"⟩, 10) := ⟨⟨by decide +kernel, by decide +kernel⟩, List.mem_of_getElem? (i := 19) (by decide +kernel), List.mem_of_getElem? (i := 399) (by decide +kernel), List.mem_of_getElem? (i := 400) (by decide +kernel)⟩
theorem lw_p14 : lw_okq (⟨"PageDesk", "carriageReturn", "()V"⟩, 10) := ⟨⟨by decide +kernel, by decide +kernel⟩, List.mem_of_getElem? (i := 19) (by decide +kernel), List.mem_of_getElem? (i := 403) (by decide +kernel), List.mem_of_getElem? (i := 404) (by decide +kernel)⟩
theorem lw_p15 : lw_okq (⟨"PageDesk", "lineFeed", "(I)V"⟩, 10) := ⟨⟨by decide +kernel, by decide +kernel⟩, List.mem_of_getElem? (i := 19) (by decide +kernel), List.mem_of_getElem? (i := 407) (by decide +kernel), List.mem_of_getElem? (i := 408) (by decide +kernel)⟩
def lw_privs_1 : List (MethodName × Nat) := [(⟨"PageDesk", "reset", "()V"⟩, 10), (⟨"PageDesk$Paper", "longSide", "()I"⟩, 5), (⟨"PageDesk$Paper", "shortSide", "()I"⟩, 5), (⟨"PageDesk", "setDefaults", "()V"⟩, 10), (⟨"PageDesk", "setY", "(J)V"⟩, 10), (⟨"PageDesk", "byteComes", "(I)V"⟩, 10), (⟨"PageDesk$Parser", "behindEsc", "(I)I"⟩, 13), (⟨"PageDesk$Parser", "behindFamily", "(I)I"⟩, 13), (⟨"PageDesk$Parser", "beginField", "()V"⟩, 13), (⟨"PageDesk$Parser", "inField", "(I)I"⟩, 13), (⟨"PageDesk$Parser", "endField", "(I)V"⟩, 13), (⟨"PageDesk$Parser", "belongsToValue", "(I)Z"⟩, 13), (⟨"PageDesk$Parser", "digit", "(I)V"⟩, 13), (⟨"PageDesk", "character", "(I)V"⟩, 10), (⟨"PageDesk", "carriageReturn", "()V"⟩, 10), (⟨"PageDesk", "lineFeed", "(I)V"⟩, 10)]
theorem lw_r1 : ∀ q ∈ lw_privs_1, lw_okq q := List.forall_mem_cons.mpr ⟨lw_p0, List.forall_mem_cons.mpr ⟨lw_p1, List.forall_mem_cons.mpr ⟨lw_p2, List.forall_mem_cons.mpr ⟨lw_p3, List.forall_mem_cons.mpr ⟨lw_p4, List.forall_mem_cons.mpr ⟨lw_p5, List.forall_mem_cons.mpr ⟨lw_p6, List.forall_mem_cons.mpr ⟨lw_p7, List.forall_mem_cons.mpr ⟨lw_p8, List.forall_mem_cons.mpr ⟨lw_p9, List.forall_mem_cons.mpr ⟨lw_p10, List.forall_mem_cons.mpr ⟨lw_p11, List.forall_mem_cons.mpr ⟨lw_p12, List.forall_mem_cons.mpr ⟨lw_p13, List.forall_mem_cons.mpr ⟨lw_p14, List.forall_mem_cons.mpr ⟨lw_p15, fun _ h => absurd h List.not_mem_nil⟩⟩⟩⟩⟩⟩⟩⟩⟩⟩⟩⟩⟩⟩⟩⟩
theorem lw_p16 : lw_okq (⟨"PageDesk", "eject", "()V"⟩, 10) := ⟨⟨by decide +kernel, by decide +kernel⟩, List.mem_of_getElem? (i := 19) (by decide +kernel), List.mem_of_getElem? (i := 411) (by decide +kernel), List.mem_of_getElem? (i := 412) (by decide +kernel)⟩
theorem lw_p17 : lw_okq (⟨"PageDesk", "setX", "(J)V"⟩, 10) := ⟨⟨by decide +kernel, by decide +kernel⟩, List.mem_of_getElem? (i := 19) (by decide +kernel), List.mem_of_getElem? (i := 430) (by decide +kernel), List.mem_of_getElem? (i := 431) (by decide +kernel)⟩
theorem lw_p18 : lw_okq (⟨"PageDesk", "controlCode", "(I)V"⟩, 10) := ⟨⟨by decide +kernel, by decide +kernel⟩, List.mem_of_getElem? (i := 19) (by decide +kernel), List.mem_of_getElem? (i := 434) (by decide +kernel), List.mem_of_getElem? (i := 435) (by decide +kernel)⟩
theorem lw_p19 : lw_okq (⟨"PageDesk", "backspace", "()V"⟩, 10) := ⟨⟨by decide +kernel, by decide +kernel⟩, List.mem_of_getElem? (i := 19) (by decide +kernel), List.mem_of_getElem? (i := 438) (by decide +kernel), List.mem_of_getElem? (i := 439) (by decide +kernel)⟩
theorem lw_p20 : lw_okq (⟨"PageDesk", "tab", "()V"⟩, 10) := ⟨⟨by decide +kernel, by decide +kernel⟩, List.mem_of_getElem? (i := 19) (by decide +kernel), List.mem_of_getElem? (i := 442) (by decide +kernel), List.mem_of_getElem? (i := 443) (by decide +kernel)⟩
theorem lw_p21 : lw_okq (⟨"PageDesk", "returnIfLineEndsSo", "()V"⟩, 10) := ⟨⟨by decide +kernel, by decide +kernel⟩, List.mem_of_getElem? (i := 19) (by decide +kernel), List.mem_of_getElem? (i := 447) (by decide +kernel), List.mem_of_getElem? (i := 448) (by decide +kernel)⟩
theorem lw_p22 : lw_okq (⟨"PageDesk", "returnWithLineEnd", "()V"⟩, 10) := ⟨⟨by decide +kernel, by decide +kernel⟩, List.mem_of_getElem? (i := 19) (by decide +kernel), List.mem_of_getElem? (i := 451) (by decide +kernel), List.mem_of_getElem? (i := 452) (by decide +kernel)⟩
theorem lw_p23 : lw_okq (⟨"PageDesk", "shortSequence", "(I)V"⟩, 10) := ⟨⟨by decide +kernel, by decide +kernel⟩, List.mem_of_getElem? (i := 19) (by decide +kernel), List.mem_of_getElem? (i := 455) (by decide +kernel), List.mem_of_getElem? (i := 456) (by decide +kernel)⟩
theorem lw_p24 : lw_okq (⟨"PageDesk", "command", "()V"⟩, 10) := ⟨⟨by decide +kernel, by decide +kernel⟩, List.mem_of_getElem? (i := 19) (by decide +kernel), List.mem_of_getElem? (i := 463) (by decide +kernel), List.mem_of_getElem? (i := 464) (by decide +kernel)⟩
theorem lw_p25 : lw_okq (⟨"PageDesk", "pageCommand", "(JJ)Z"⟩, 10) := ⟨⟨by decide +kernel, by decide +kernel⟩, List.mem_of_getElem? (i := 19) (by decide +kernel), List.mem_of_getElem? (i := 468) (by decide +kernel), List.mem_of_getElem? (i := 469) (by decide +kernel)⟩
theorem lw_p26 : lw_okq (⟨"PageDesk", "changePaper", "(II)V"⟩, 10) := ⟨⟨by decide +kernel, by decide +kernel⟩, List.mem_of_getElem? (i := 19) (by decide +kernel), List.mem_of_getElem? (i := 479) (by decide +kernel), List.mem_of_getElem? (i := 480) (by decide +kernel)⟩
theorem lw_p27 : lw_okq (⟨"PageDesk", "setStepDown", "(J)V"⟩, 10) := ⟨⟨by decide +kernel, by decide +kernel⟩, List.mem_of_getElem? (i := 19) (by decide +kernel), List.mem_of_getElem? (i := 485) (by decide +kernel), List.mem_of_getElem? (i := 486) (by decide +kernel)⟩
theorem lw_p28 : lw_okq (⟨"PageDesk", "setLinesPerInch", "(I)V"⟩, 10) := ⟨⟨by decide +kernel, by decide +kernel⟩, List.mem_of_getElem? (i := 19) (by decide +kernel), List.mem_of_getElem? (i := 489) (by decide +kernel), List.mem_of_getElem? (i := 490) (by decide +kernel)⟩
theorem lw_p29 : lw_okq (⟨"PageDesk", "setTop", "(J)V"⟩, 10) := ⟨⟨by decide +kernel, by decide +kernel⟩, List.mem_of_getElem? (i := 19) (by decide +kernel), List.mem_of_getElem? (i := 493) (by decide +kernel), List.mem_of_getElem? (i := 494) (by decide +kernel)⟩
theorem lw_p30 : lw_okq (⟨"PageDesk", "setLength", "(J)V"⟩, 10) := ⟨⟨by decide +kernel, by decide +kernel⟩, List.mem_of_getElem? (i := 19) (by decide +kernel), List.mem_of_getElem? (i := 498) (by decide +kernel), List.mem_of_getElem? (i := 499) (by decide +kernel)⟩
theorem lw_p31 : lw_okq (⟨"PageDesk", "spacingCommand", "(JJ)Z"⟩, 10) := ⟨⟨by decide +kernel, by decide +kernel⟩, List.mem_of_getElem? (i := 19) (by decide +kernel), List.mem_of_getElem? (i := 502) (by decide +kernel), List.mem_of_getElem? (i := 503) (by decide +kernel)⟩
def lw_privs_2 : List (MethodName × Nat) := [(⟨"PageDesk", "eject", "()V"⟩, 10), (⟨"PageDesk", "setX", "(J)V"⟩, 10), (⟨"PageDesk", "controlCode", "(I)V"⟩, 10), (⟨"PageDesk", "backspace", "()V"⟩, 10), (⟨"PageDesk", "tab", "()V"⟩, 10), (⟨"PageDesk", "returnIfLineEndsSo", "()V"⟩, 10), (⟨"PageDesk", "returnWithLineEnd", "()V"⟩, 10), (⟨"PageDesk", "shortSequence", "(I)V"⟩, 10), (⟨"PageDesk", "command", "()V"⟩, 10), (⟨"PageDesk", "pageCommand", "(JJ)Z"⟩, 10), (⟨"PageDesk", "changePaper", "(II)V"⟩, 10), (⟨"PageDesk", "setStepDown", "(J)V"⟩, 10), (⟨"PageDesk", "setLinesPerInch", "(I)V"⟩, 10), (⟨"PageDesk", "setTop", "(J)V"⟩, 10), (⟨"PageDesk", "setLength", "(J)V"⟩, 10), (⟨"PageDesk", "spacingCommand", "(JJ)Z"⟩, 10)]
theorem lw_r2 : ∀ q ∈ lw_privs_2, lw_okq q := List.forall_mem_cons.mpr ⟨lw_p16, List.forall_mem_cons.mpr ⟨lw_p17, List.forall_mem_cons.mpr ⟨lw_p18, List.forall_mem_cons.mpr ⟨lw_p19, List.forall_mem_cons.mpr ⟨lw_p20, List.forall_mem_cons.mpr ⟨lw_p21, List.forall_mem_cons.mpr ⟨lw_p22, List.forall_mem_cons.mpr ⟨lw_p23, List.forall_mem_cons.mpr ⟨lw_p24, List.forall_mem_cons.mpr ⟨lw_p25, List.forall_mem_cons.mpr ⟨lw_p26, List.forall_mem_cons.mpr ⟨lw_p27, List.forall_mem_cons.mpr ⟨lw_p28, List.forall_mem_cons.mpr ⟨lw_p29, List.forall_mem_cons.mpr ⟨lw_p30, List.forall_mem_cons.mpr ⟨lw_p31, fun _ h => absurd h List.not_mem_nil⟩⟩⟩⟩⟩⟩⟩⟩⟩⟩⟩⟩⟩⟩⟩⟩
theorem lw_p32 : lw_okq (⟨"PageDesk", "marginCommand", "(J)Z"⟩, 10) := ⟨⟨by decide +kernel, by decide +kernel⟩, List.mem_of_getElem? (i := 19) (by decide +kernel), List.mem_of_getElem? (i := 507) (by decide +kernel), List.mem_of_getElem? (i := 508) (by decide +kernel)⟩
theorem lw_p33 : lw_okq (⟨"PageDesk", "setLeft", "(J)V"⟩, 10) := ⟨⟨by decide +kernel, by decide +kernel⟩, List.mem_of_getElem? (i := 19) (by decide +kernel), List.mem_of_getElem? (i := 511) (by decide +kernel), List.mem_of_getElem? (i := 512) (by decide +kernel)⟩
theorem lw_p34 : lw_okq (⟨"PageDesk", "setRight", "(J)V"⟩, 10) := ⟨⟨by decide +kernel, by decide +kernel⟩, List.mem_of_getElem? (i := 19) (by decide +kernel), List.mem_of_getElem? (i := 515) (by decide +kernel), List.mem_of_getElem? (i := 516) (by decide +kernel)⟩
theorem lw_p35 : lw_okq (⟨"PageDesk", "cursorCommand", "()Z"⟩, 10) := ⟨⟨by decide +kernel, by decide +kernel⟩, List.mem_of_getElem? (i := 19) (by decide +kernel), List.mem_of_getElem? (i := 519) (by decide +kernel), List.mem_of_getElem? (i := 520) (by decide +kernel)⟩
theorem lw_p36 : lw_okq (⟨"PageDesk", "goAcross", "(J)V"⟩, 10) := ⟨⟨by decide +kernel, by decide +kernel⟩, List.mem_of_getElem? (i := 19) (by decide +kernel), List.mem_of_getElem? (i := 523) (by decide +kernel), List.mem_of_getElem? (i := 524) (by decide +kernel)⟩
theorem lw_p37 : lw_okq (⟨"PageDesk", "goDown", "(IJ)V"⟩, 10) := ⟨⟨by decide +kernel, by decide +kernel⟩, List.mem_of_getElem? (i := 19) (by decide +kernel), List.mem_of_getElem? (i := 528) (by decide +kernel), List.mem_of_getElem? (i := 529) (by decide +kernel)⟩
theorem lw_p38 : lw_okq (⟨"PageDesk", "wrapCommand", "(J)Z"⟩, 10) := ⟨⟨by decide +kernel, by decide +kernel⟩, List.mem_of_getElem? (i := 19) (by decide +kernel), List.mem_of_getElem? (i := 532) (by decide +kernel), List.mem_of_getElem? (i := 533) (by decide +kernel)⟩
theorem lw_p39 : lw_okq (⟨"PageDesk", "stackCommand", "(J)Z"⟩, 10) := ⟨⟨by decide +kernel, by decide +kernel⟩, List.mem_of_getElem? (i := 19) (by decide +kernel), List.mem_of_getElem? (i := 536) (by decide +kernel), List.mem_of_getElem? (i := 537) (by decide +kernel)⟩
theorem lw_p40 : lw_okq (⟨"PageDesk", "dotCommand", "()Z"⟩, 10) := ⟨⟨by decide +kernel, by decide +kernel⟩, List.mem_of_getElem? (i := 19) (by decide +kernel), List.mem_of_getElem? (i := 545) (by decide +kernel), List.mem_of_getElem? (i := 546) (by decide +kernel)⟩
theorem lw_p41 : lw_okq (⟨"java/lang/Throwable", "fillInStackTrace", "(I)Ljava/lang/Throwable;"⟩, 6) := ⟨⟨by decide +kernel, by decide +kernel⟩, List.mem_of_getElem? (i := 650) (by decide +kernel), List.mem_of_getElem? (i := 648) (by decide +kernel), List.mem_of_getElem? (i := 649) (by decide +kernel)⟩
theorem lw_p42 : lw_okq (⟨"PageDeskModel", "reset", "()V"⟩, 33) := ⟨⟨by decide +kernel, by decide +kernel⟩, List.mem_of_getElem? (i := 740) (by decide +kernel), List.mem_of_getElem? (i := 746) (by decide +kernel), List.mem_of_getElem? (i := 747) (by decide +kernel)⟩
theorem lw_p43 : lw_okq (⟨"PageDeskModel", "defaults", "()V"⟩, 33) := ⟨⟨by decide +kernel, by decide +kernel⟩, List.mem_of_getElem? (i := 740) (by decide +kernel), List.mem_of_getElem? (i := 750) (by decide +kernel), List.mem_of_getElem? (i := 751) (by decide +kernel)⟩
theorem lw_p44 : lw_okq (⟨"PageDeskModel", "measure", "()V"⟩, 33) := ⟨⟨by decide +kernel, by decide +kernel⟩, List.mem_of_getElem? (i := 740) (by decide +kernel), List.mem_of_getElem? (i := 754) (by decide +kernel), List.mem_of_getElem? (i := 755) (by decide +kernel)⟩
theorem lw_p45 : lw_okq (⟨"PageDeskModel", "setX", "(J)V"⟩, 33) := ⟨⟨by decide +kernel, by decide +kernel⟩, List.mem_of_getElem? (i := 740) (by decide +kernel), List.mem_of_getElem? (i := 772) (by decide +kernel), List.mem_of_getElem? (i := 773) (by decide +kernel)⟩
theorem lw_p46 : lw_okq (⟨"PageDeskModel", "home", "()I"⟩, 33) := ⟨⟨by decide +kernel, by decide +kernel⟩, List.mem_of_getElem? (i := 740) (by decide +kernel), List.mem_of_getElem? (i := 779) (by decide +kernel), List.mem_of_getElem? (i := 780) (by decide +kernel)⟩
theorem lw_p47 : lw_okq (⟨"PageDeskModel", "setY", "(J)V"⟩, 33) := ⟨⟨by decide +kernel, by decide +kernel⟩, List.mem_of_getElem? (i := 740) (by decide +kernel), List.mem_of_getElem? (i := 783) (by decide +kernel), List.mem_of_getElem? (i := 784) (by decide +kernel)⟩
def lw_privs_3 : List (MethodName × Nat) := [(⟨"PageDesk", "marginCommand", "(J)Z"⟩, 10), (⟨"PageDesk", "setLeft", "(J)V"⟩, 10), (⟨"PageDesk", "setRight", "(J)V"⟩, 10), (⟨"PageDesk", "cursorCommand", "()Z"⟩, 10), (⟨"PageDesk", "goAcross", "(J)V"⟩, 10), (⟨"PageDesk", "goDown", "(IJ)V"⟩, 10), (⟨"PageDesk", "wrapCommand", "(J)Z"⟩, 10), (⟨"PageDesk", "stackCommand", "(J)Z"⟩, 10), (⟨"PageDesk", "dotCommand", "()Z"⟩, 10), (⟨"java/lang/Throwable", "fillInStackTrace", "(I)Ljava/lang/Throwable;"⟩, 6), (⟨"PageDeskModel", "reset", "()V"⟩, 33), (⟨"PageDeskModel", "defaults", "()V"⟩, 33), (⟨"PageDeskModel", "measure", "()V"⟩, 33), (⟨"PageDeskModel", "setX", "(J)V"⟩, 33), (⟨"PageDeskModel", "home", "()I"⟩, 33), (⟨"PageDeskModel", "setY", "(J)V"⟩, 33)]
theorem lw_r3 : ∀ q ∈ lw_privs_3, lw_okq q := List.forall_mem_cons.mpr ⟨lw_p32, List.forall_mem_cons.mpr ⟨lw_p33, List.forall_mem_cons.mpr ⟨lw_p34, List.forall_mem_cons.mpr ⟨lw_p35, List.forall_mem_cons.mpr ⟨lw_p36, List.forall_mem_cons.mpr ⟨lw_p37, List.forall_mem_cons.mpr ⟨lw_p38, List.forall_mem_cons.mpr ⟨lw_p39, List.forall_mem_cons.mpr ⟨lw_p40, List.forall_mem_cons.mpr ⟨lw_p41, List.forall_mem_cons.mpr ⟨lw_p42, List.forall_mem_cons.mpr ⟨lw_p43, List.forall_mem_cons.mpr ⟨lw_p44, List.forall_mem_cons.mpr ⟨lw_p45, List.forall_mem_cons.mpr ⟨lw_p46, List.forall_mem_cons.mpr ⟨lw_p47, fun _ h => absurd h List.not_mem_nil⟩⟩⟩⟩⟩⟩⟩⟩⟩⟩⟩⟩⟩⟩⟩⟩
theorem lw_p48 : lw_okq (⟨"PageDeskModel", "comes", "(I)V"⟩, 33) := ⟨⟨by decide +kernel, by decide +kernel⟩, List.mem_of_getElem? (i := 740) (by decide +kernel), List.mem_of_getElem? (i := 896) (by decide +kernel), List.mem_of_getElem? (i := 897) (by decide +kernel)⟩
theorem lw_p49 : lw_okq (⟨"PageDeskModel", "datum", "(I)V"⟩, 33) := ⟨⟨by decide +kernel, by decide +kernel⟩, List.mem_of_getElem? (i := 740) (by decide +kernel), List.mem_of_getElem? (i := 900) (by decide +kernel), List.mem_of_getElem? (i := 901) (by decide +kernel)⟩
theorem lw_p50 : lw_okq (⟨"PageDeskModel", "character", "(I)V"⟩, 33) := ⟨⟨by decide +kernel, by decide +kernel⟩, List.mem_of_getElem? (i := 740) (by decide +kernel), List.mem_of_getElem? (i := 904) (by decide +kernel), List.mem_of_getElem? (i := 905) (by decide +kernel)⟩
theorem lw_p51 : lw_okq (⟨"PageDeskModel", "carriageReturn", "()V"⟩, 33) := ⟨⟨by decide +kernel, by decide +kernel⟩, List.mem_of_getElem? (i := 740) (by decide +kernel), List.mem_of_getElem? (i := 908) (by decide +kernel), List.mem_of_getElem? (i := 909) (by decide +kernel)⟩
theorem lw_p52 : lw_okq (⟨"PageDeskModel", "lineFeed", "(I)V"⟩, 33) := ⟨⟨by decide +kernel, by decide +kernel⟩, List.mem_of_getElem? (i := 740) (by decide +kernel), List.mem_of_getElem? (i := 912) (by decide +kernel), List.mem_of_getElem? (i := 913) (by decide +kernel)⟩
theorem lw_p53 : lw_okq (⟨"PageDeskModel", "eject", "()V"⟩, 33) := ⟨⟨by decide +kernel, by decide +kernel⟩, List.mem_of_getElem? (i := 740) (by decide +kernel), List.mem_of_getElem? (i := 916) (by decide +kernel), List.mem_of_getElem? (i := 917) (by decide +kernel)⟩
theorem lw_p54 : lw_okq (⟨"PageDeskModel", "behindEsc", "(I)V"⟩, 33) := ⟨⟨by decide +kernel, by decide +kernel⟩, List.mem_of_getElem? (i := 740) (by decide +kernel), List.mem_of_getElem? (i := 920) (by decide +kernel), List.mem_of_getElem? (i := 921) (by decide +kernel)⟩
theorem lw_p55 : lw_okq (⟨"PageDeskModel", "shortSequence", "(I)V"⟩, 33) := ⟨⟨by decide +kernel, by decide +kernel⟩, List.mem_of_getElem? (i := 740) (by decide +kernel), List.mem_of_getElem? (i := 924) (by decide +kernel), List.mem_of_getElem? (i := 925) (by decide +kernel)⟩
theorem lw_p56 : lw_okq (⟨"PageDeskModel", "ejectIfDue", "()V"⟩, 33) := ⟨⟨by decide +kernel, by decide +kernel⟩, List.mem_of_getElem? (i := 740) (by decide +kernel), List.mem_of_getElem? (i := 928) (by decide +kernel), List.mem_of_getElem? (i := 929) (by decide +kernel)⟩
theorem lw_p57 : lw_okq (⟨"PageDeskModel", "beginField", "()V"⟩, 33) := ⟨⟨by decide +kernel, by decide +kernel⟩, List.mem_of_getElem? (i := 740) (by decide +kernel), List.mem_of_getElem? (i := 932) (by decide +kernel), List.mem_of_getElem? (i := 933) (by decide +kernel)⟩
theorem lw_p58 : lw_okq (⟨"PageDeskModel", "field", "(I)V"⟩, 33) := ⟨⟨by decide +kernel, by decide +kernel⟩, List.mem_of_getElem? (i := 740) (by decide +kernel), List.mem_of_getElem? (i := 936) (by decide +kernel), List.mem_of_getElem? (i := 937) (by decide +kernel)⟩
theorem lw_p59 : lw_okq (⟨"PageDeskModel", "command", "(IZ)V"⟩, 33) := ⟨⟨by decide +kernel, by decide +kernel⟩, List.mem_of_getElem? (i := 740) (by decide +kernel), List.mem_of_getElem? (i := 940) (by decide +kernel), List.mem_of_getElem? (i := 941) (by decide +kernel)⟩
theorem lw_p60 : lw_okq (⟨"PageDeskModel", "value", "()I"⟩, 33) := ⟨⟨by decide +kernel, by decide +kernel⟩, List.mem_of_getElem? (i := 740) (by decide +kernel), List.mem_of_getElem? (i := 944) (by decide +kernel), List.mem_of_getElem? (i := 945) (by decide +kernel)⟩
theorem lw_p61 : lw_okq (⟨"PageDeskModel", "known", "(III)Z"⟩, 33) := ⟨⟨by decide +kernel, by decide +kernel⟩, List.mem_of_getElem? (i := 740) (by decide +kernel), List.mem_of_getElem? (i := 948) (by decide +kernel), List.mem_of_getElem? (i := 949) (by decide +kernel)⟩
theorem lw_p62 : lw_okq (⟨"PageDeskModel", "paging", "(IJI)Z"⟩, 33) := ⟨⟨by decide +kernel, by decide +kernel⟩, List.mem_of_getElem? (i := 740) (by decide +kernel), List.mem_of_getElem? (i := 952) (by decide +kernel), List.mem_of_getElem? (i := 953) (by decide +kernel)⟩
theorem lw_p63 : lw_okq (⟨"PageDeskModel", "is", "(IIII)Z"⟩, 33) := ⟨⟨by decide +kernel, by decide +kernel⟩, List.mem_of_getElem? (i := 740) (by decide +kernel), List.mem_of_getElem? (i := 961) (by decide +kernel), List.mem_of_getElem? (i := 962) (by decide +kernel)⟩
def lw_privs_4 : List (MethodName × Nat) := [(⟨"PageDeskModel", "comes", "(I)V"⟩, 33), (⟨"PageDeskModel", "datum", "(I)V"⟩, 33), (⟨"PageDeskModel", "character", "(I)V"⟩, 33), (⟨"PageDeskModel", "carriageReturn", "()V"⟩, 33), (⟨"PageDeskModel", "lineFeed", "(I)V"⟩, 33), (⟨"PageDeskModel", "eject", "()V"⟩, 33), (⟨"PageDeskModel", "behindEsc", "(I)V"⟩, 33), (⟨"PageDeskModel", "shortSequence", "(I)V"⟩, 33), (⟨"PageDeskModel", "ejectIfDue", "()V"⟩, 33), (⟨"PageDeskModel", "beginField", "()V"⟩, 33), (⟨"PageDeskModel", "field", "(I)V"⟩, 33), (⟨"PageDeskModel", "command", "(IZ)V"⟩, 33), (⟨"PageDeskModel", "value", "()I"⟩, 33), (⟨"PageDeskModel", "known", "(III)Z"⟩, 33), (⟨"PageDeskModel", "paging", "(IJI)Z"⟩, 33), (⟨"PageDeskModel", "is", "(IIII)Z"⟩, 33)]
theorem lw_r4 : ∀ q ∈ lw_privs_4, lw_okq q := List.forall_mem_cons.mpr ⟨lw_p48, List.forall_mem_cons.mpr ⟨lw_p49, List.forall_mem_cons.mpr ⟨lw_p50, List.forall_mem_cons.mpr ⟨lw_p51, List.forall_mem_cons.mpr ⟨lw_p52, List.forall_mem_cons.mpr ⟨lw_p53, List.forall_mem_cons.mpr ⟨lw_p54, List.forall_mem_cons.mpr ⟨lw_p55, List.forall_mem_cons.mpr ⟨lw_p56, List.forall_mem_cons.mpr ⟨lw_p57, List.forall_mem_cons.mpr ⟨lw_p58, List.forall_mem_cons.mpr ⟨lw_p59, List.forall_mem_cons.mpr ⟨lw_p60, List.forall_mem_cons.mpr ⟨lw_p61, List.forall_mem_cons.mpr ⟨lw_p62, List.forall_mem_cons.mpr ⟨lw_p63, fun _ h => absurd h List.not_mem_nil⟩⟩⟩⟩⟩⟩⟩⟩⟩⟩⟩⟩⟩⟩⟩⟩
theorem lw_p64 : lw_okq (⟨"PageDeskModel", "stack", "(I)V"⟩, 33) := ⟨⟨by decide +kernel, by decide +kernel⟩, List.mem_of_getElem? (i := 740) (by decide +kernel), List.mem_of_getElem? (i := 966) (by decide +kernel), List.mem_of_getElem? (i := 967) (by decide +kernel)⟩
theorem lw_p65 : lw_okq (⟨"PageDeskModel", "cursor", "(IIJ)Z"⟩, 33) := ⟨⟨by decide +kernel, by decide +kernel⟩, List.mem_of_getElem? (i := 740) (by decide +kernel), List.mem_of_getElem? (i := 970) (by decide +kernel), List.mem_of_getElem? (i := 971) (by decide +kernel)⟩
theorem lw_p66 : lw_okq (⟨"PageDeskModel", "handOn", "(II)V"⟩, 33) := ⟨⟨by decide +kernel, by decide +kernel⟩, List.mem_of_getElem? (i := 740) (by decide +kernel), List.mem_of_getElem? (i := 976) (by decide +kernel), List.mem_of_getElem? (i := 977) (by decide +kernel)⟩
theorem lw_p67 : lw_okq (⟨"PageDeskModel", "control", "(I)V"⟩, 33) := ⟨⟨by decide +kernel, by decide +kernel⟩, List.mem_of_getElem? (i := 740) (by decide +kernel), List.mem_of_getElem? (i := 980) (by decide +kernel), List.mem_of_getElem? (i := 981) (by decide +kernel)⟩
theorem lw_p68 : lw_okq (⟨"PageDeskModel", "tab", "()V"⟩, 33) := ⟨⟨by decide +kernel, by decide +kernel⟩, List.mem_of_getElem? (i := 740) (by decide +kernel), List.mem_of_getElem? (i := 984) (by decide +kernel), List.mem_of_getElem? (i := 985) (by decide +kernel)⟩
def lw_privs_5 : List (MethodName × Nat) := [(⟨"PageDeskModel", "stack", "(I)V"⟩, 33), (⟨"PageDeskModel", "cursor", "(IIJ)Z"⟩, 33), (⟨"PageDeskModel", "handOn", "(II)V"⟩, 33), (⟨"PageDeskModel", "control", "(I)V"⟩, 33), (⟨"PageDeskModel", "tab", "()V"⟩, 33)]
theorem lw_r5 : ∀ q ∈ lw_privs_5, lw_okq q := List.forall_mem_cons.mpr ⟨lw_p64, List.forall_mem_cons.mpr ⟨lw_p65, List.forall_mem_cons.mpr ⟨lw_p66, List.forall_mem_cons.mpr ⟨lw_p67, List.forall_mem_cons.mpr ⟨lw_p68, fun _ h => absurd h List.not_mem_nil⟩⟩⟩⟩⟩
def lw_privs : List (MethodName × Nat) := lw_privs_1 ++ (lw_privs_2 ++ (lw_privs_3 ++ (lw_privs_4 ++ (lw_privs_5))))
def lw_tbl : List Cond := k2_sels lw_privs ++ tables_1
theorem lw_privs_ok : ∀ q ∈ lw_privs, lw_okq q := by
  show ∀ q ∈ lw_privs_1 ++ (lw_privs_2 ++ (lw_privs_3 ++ (lw_privs_4 ++ (lw_privs_5)))), lw_okq q
  exact List.forall_mem_append.mpr ⟨lw_r1, List.forall_mem_append.mpr ⟨lw_r2, List.forall_mem_append.mpr ⟨lw_r3, List.forall_mem_append.mpr ⟨lw_r4, lw_r5⟩⟩⟩⟩
end
section
/-! ===== BEGIN printed: names, fields, word lists, decode rows ===== -/
def RX0 : String := "PageDesk$DonePages"
def TX0 : u_T := fun k => match k with
  | 0 => ("PageDesk$DonePages", "parts", "[I", true)
  | _ => ("PageDesk$DonePages", "count", "I", false)
def tyX0 : Nat → FieldType := fun k => match k with
  | 0 => .array .int
  | _ => .int
abbrev wsX00 : List Cond := u_ws RX0 TX0 2
theorem nmX0 : ∀ a, a < 2 → ∀ b, b < 2 → a ≠ b → (TX0 a).2.1 ≠ (TX0 b).2.1 := by decide +kernel
theorem tyX0_ok : ∀ k, k < 2 → parseFieldDescriptor (TX0 k).2.2.1 = some (tyX0 k) := by decide +kernel
abbrev cX0_init : ByteArray := prog_2_method_1_code
def yX0_init : MethodName := ⟨RX0, "<init>", "()V"⟩
abbrev cX0_add : ByteArray := prog_2_method_2_code
def yX0_add : MethodName := ⟨RX0, "add", "(ILPageDesk$Paper;)V"⟩
abbrev cX0_has : ByteArray := prog_2_method_3_code
def yX0_has : MethodName := ⟨RX0, "has", "(I)Z"⟩
abbrev cX0_partOf : ByteArray := prog_2_method_4_code
def yX0_partOf : MethodName := ⟨RX0, "partOf", "(II)I"⟩
def RX1 : String := "PageDesk$Layout"
def TX1 : u_T := fun k => match k with
  | 0 => ("PageDesk$Layout", "top", "I", false)
  | 1 => ("PageDesk$Layout", "length", "I", false)
  | 2 => ("PageDesk$Layout", "left", "I", false)
  | 3 => ("PageDesk$Layout", "right", "I", false)
  | 4 => ("PageDesk$Layout", "stepAcross", "I", false)
  | 5 => ("PageDesk$Layout", "stepDown", "I", false)
  | 6 => ("PageDesk$Layout", "x", "I", false)
  | 7 => ("PageDesk$Layout", "y", "I", false)
  | 8 => ("PageDesk$Layout", "wrap", "Z", false)
  | 9 => ("PageDesk$Layout", "skip", "Z", false)
  | 10 => ("PageDesk$Layout", "lineEnd", "I", false)
  | 11 => ("PageDesk$Layout", "font", "I", false)
  | 12 => ("PageDesk$Layout", "depth", "I", false)
  | 13 => ("PageDesk$Layout", "stackX", "[I", true)
  | _ => ("PageDesk$Layout", "stackY", "[I", true)
def tyX1 : Nat → FieldType := fun k => match k with
  | 0 => .int
  | 1 => .int
  | 2 => .int
  | 3 => .int
  | 4 => .int
  | 5 => .int
  | 6 => .int
  | 7 => .int
  | 8 => .boolean
  | 9 => .boolean
  | 10 => .int
  | 11 => .int
  | 12 => .int
  | 13 => .array .int
  | _ => .array .int
abbrev wsX10 : List Cond := u_ws RX1 TX1 15
theorem nmX1 : ∀ a, a < 15 → ∀ b, b < 15 → a ≠ b → (TX1 a).2.1 ≠ (TX1 b).2.1 := by decide +kernel
theorem tyX1_ok : ∀ k, k < 15 → parseFieldDescriptor (TX1 k).2.2.1 = some (tyX1 k) := by decide +kernel
abbrev cX1_init : ByteArray := prog_3_method_1_code
def yX1_init : MethodName := ⟨RX1, "<init>", "()V"⟩
abbrev cX1_home : ByteArray := prog_3_method_2_code
def yX1_home : MethodName := ⟨RX1, "home", "()I"⟩
abbrev cX1_push : ByteArray := prog_3_method_3_code
def yX1_push : MethodName := ⟨RX1, "push", "()V"⟩
abbrev cX1_copyFrom : ByteArray := prog_3_method_4_code
def yX1_copyFrom : MethodName := ⟨RX1, "copyFrom", "(LPageDesk$Layout;)V"⟩
def RX2 : String := "PageDesk$Other"
def TX2 : u_T := fun k => match k with
  | 0 => ("PageDesk$Other", "family", "I", false)
  | 1 => ("PageDesk$Other", "group", "I", false)
  | 2 => ("PageDesk$Other", "value", "I", false)
  | 3 => ("PageDesk$Other", "end", "I", false)
  | 4 => ("PageDesk$Other", "signed", "Z", false)
  | 5 => ("PageDesk$Other", "dataStored", "I", false)
  | _ => ("PageDesk$Other", "dataToCome", "I", false)
def tyX2 : Nat → FieldType := fun k => match k with
  | 0 => .int
  | 1 => .int
  | 2 => .int
  | 3 => .int
  | 4 => .boolean
  | 5 => .int
  | _ => .int
abbrev wsX20 : List Cond := u_ws RX2 TX2 7
theorem nmX2 : ∀ a, a < 7 → ∀ b, b < 7 → a ≠ b → (TX2 a).2.1 ≠ (TX2 b).2.1 := by decide +kernel
theorem tyX2_ok : ∀ k, k < 7 → parseFieldDescriptor (TX2 k).2.2.1 = some (tyX2 k) := by decide +kernel
abbrev cX2_init : ByteArray := prog_4_method_1_code
def yX2_init : MethodName := ⟨RX2, "<init>", "()V"⟩
def RX3 : String := "PageDesk$OtherQueue"
def TX3 : u_T := fun k => match k with
  | 0 => ("PageDesk$OtherQueue", "row", "[LPageDesk$Other;", true)
  | 1 => ("PageDesk$OtherQueue", "store", "[B", true)
  | 2 => ("PageDesk$OtherQueue", "count", "I", false)
  | 3 => ("PageDesk$OtherQueue", "first", "I", false)
  | 4 => ("PageDesk$OtherQueue", "storeStart", "I", false)
  | 5 => ("PageDesk$OtherQueue", "stored", "I", false)
  | _ => ("PageDesk$OtherQueue", "latestIsLost", "Z", false)
def tyX3 : Nat → FieldType := fun k => match k with
  | 0 => .array (.object "PageDesk$Other")
  | 1 => .array .byte
  | 2 => .int
  | 3 => .int
  | 4 => .int
  | 5 => .int
  | _ => .boolean
abbrev wsX30 : List Cond := u_ws RX3 TX3 7
theorem nmX3 : ∀ a, a < 7 → ∀ b, b < 7 → a ≠ b → (TX3 a).2.1 ≠ (TX3 b).2.1 := by decide +kernel
theorem tyX3_ok : ∀ k, k < 7 → parseFieldDescriptor (TX3 k).2.2.1 = some (tyX3 k) := by decide +kernel
abbrev cX3_init : ByteArray := prog_5_method_1_code
def yX3_init : MethodName := ⟨RX3, "<init>", "()V"⟩
abbrev cX3_add : ByteArray := prog_5_method_2_code
def yX3_add : MethodName := ⟨RX3, "add", "(LPageDesk$Parser;)V"⟩
abbrev cX3_addByte : ByteArray := prog_5_method_3_code
def yX3_addByte : MethodName := ⟨RX3, "addByte", "(I)V"⟩
abbrev cX3_firstPart : ByteArray := prog_5_method_4_code
def yX3_firstPart : MethodName := ⟨RX3, "firstPart", "(I)I"⟩
abbrev cX3_firstEightBytes : ByteArray := prog_5_method_5_code
def yX3_firstEightBytes : MethodName := ⟨RX3, "firstEightBytes", "(I)J"⟩
abbrev cX3_removeFirst : ByteArray := prog_5_method_6_code
def yX3_removeFirst : MethodName := ⟨RX3, "removeFirst", "()Z"⟩
def RX4 : String := "PageDesk$Paper"
def TX4 : u_T := fun k => match k with
  | 0 => ("PageDesk$Paper", "size", "I", false)
  | 1 => ("PageDesk$Paper", "orientation", "I", false)
  | 2 => ("PageDesk$Paper", "copies", "I", false)
  | 3 => ("PageDesk$Paper", "width", "I", false)
  | _ => ("PageDesk$Paper", "height", "I", false)
def tyX4 : Nat → FieldType := fun k => match k with
  | 0 => .int
  | 1 => .int
  | 2 => .int
  | 3 => .int
  | _ => .int
abbrev wsX40 : List Cond := u_ws RX4 TX4 5
theorem nmX4 : ∀ a, a < 5 → ∀ b, b < 5 → a ≠ b → (TX4 a).2.1 ≠ (TX4 b).2.1 := by decide +kernel
theorem tyX4_ok : ∀ k, k < 5 → parseFieldDescriptor (TX4 k).2.2.1 = some (tyX4 k) := by decide +kernel
abbrev cX4_init : ByteArray := prog_6_method_1_code
def yX4_init : MethodName := ⟨RX4, "<init>", "()V"⟩
abbrev cX4_isSize : ByteArray := prog_6_method_2_code
def yX4_isSize : MethodName := ⟨RX4, "isSize", "(J)Z"⟩
abbrev cX4_choose : ByteArray := prog_6_method_3_code
def yX4_choose : MethodName := ⟨RX4, "choose", "(II)V"⟩
abbrev cX4_shortSide : ByteArray := prog_6_method_4_code
def yX4_shortSide : MethodName := ⟨RX4, "shortSide", "()I"⟩
abbrev cX4_longSide : ByteArray := prog_6_method_5_code
def yX4_longSide : MethodName := ⟨RX4, "longSide", "()I"⟩
def RX5 : String := "PageDesk$Parser"
def TX5 : u_T := fun k => match k with
  | 0 => ("PageDesk$Parser", "family", "I", false)
  | 1 => ("PageDesk$Parser", "group", "I", false)
  | 2 => ("PageDesk$Parser", "value", "I", false)
  | 3 => ("PageDesk$Parser", "end", "I", false)
  | 4 => ("PageDesk$Parser", "signed", "Z", false)
  | 5 => ("PageDesk$Parser", "dataLeft", "I", false)
  | 6 => ("PageDesk$Parser", "state", "I", false)
  | 7 => ("PageDesk$Parser", "valueState", "I", false)
  | 8 => ("PageDesk$Parser", "plus", "Z", false)
  | 9 => ("PageDesk$Parser", "minus", "Z", false)
  | 10 => ("PageDesk$Parser", "whole", "I", false)
  | 11 => ("PageDesk$Parser", "fraction", "I", false)
  | _ => ("PageDesk$Parser", "nextDigitWorth", "I", false)
def tyX5 : Nat → FieldType := fun k => match k with
  | 0 => .int
  | 1 => .int
  | 2 => .int
  | 3 => .int
  | 4 => .boolean
  | 5 => .int
  | 6 => .int
  | 7 => .int
  | 8 => .boolean
  | 9 => .boolean
  | 10 => .int
  | 11 => .int
  | _ => .int
abbrev wsX50 : List Cond := u_ws RX5 TX5 13
theorem nmX5 : ∀ a, a < 13 → ∀ b, b < 13 → a ≠ b → (TX5 a).2.1 ≠ (TX5 b).2.1 := by decide +kernel
theorem tyX5_ok : ∀ k, k < 13 → parseFieldDescriptor (TX5 k).2.2.1 = some (tyX5 k) := by decide +kernel
abbrev cX5_init : ByteArray := prog_7_method_1_code
def yX5_init : MethodName := ⟨RX5, "<init>", "()V"⟩
abbrev cX5_isUnderWay : ByteArray := prog_7_method_2_code
def yX5_isUnderWay : MethodName := ⟨RX5, "isUnderWay", "()Z"⟩
abbrev cX5_hasText : ByteArray := prog_7_method_3_code
def yX5_hasText : MethodName := ⟨RX5, "hasText", "()Z"⟩
abbrev cX5_accept : ByteArray := prog_7_method_4_code
def yX5_accept : MethodName := ⟨RX5, "accept", "(I)I"⟩
abbrev cX5_behindEsc : ByteArray := prog_7_method_5_code
def yX5_behindEsc : MethodName := ⟨RX5, "behindEsc", "(I)I"⟩
abbrev cX5_behindFamily : ByteArray := prog_7_method_6_code
def yX5_behindFamily : MethodName := ⟨RX5, "behindFamily", "(I)I"⟩
abbrev cX5_beginField : ByteArray := prog_7_method_7_code
def yX5_beginField : MethodName := ⟨RX5, "beginField", "()V"⟩
abbrev cX5_inField : ByteArray := prog_7_method_8_code
def yX5_inField : MethodName := ⟨RX5, "inField", "(I)I"⟩
abbrev cX5_belongsToValue : ByteArray := prog_7_method_9_code
def yX5_belongsToValue : MethodName := ⟨RX5, "belongsToValue", "(I)Z"⟩
abbrev cX5_digit : ByteArray := prog_7_method_10_code
def yX5_digit : MethodName := ⟨RX5, "digit", "(I)V"⟩
abbrev cX5_endField : ByteArray := prog_7_method_11_code
def yX5_endField : MethodName := ⟨RX5, "endField", "(I)V"⟩
def RX6 : String := "PageDesk$Sheet"
def TX6 : u_T := fun k => match k with
  | 0 => ("PageDesk$Sheet", "glyphs", "[J", true)
  | 1 => ("PageDesk$Sheet", "count", "I", false)
  | 2 => ("PageDesk$Sheet", "came", "I", false)
  | _ => ("PageDesk$Sheet", "toldDue", "Z", false)
def tyX6 : Nat → FieldType := fun k => match k with
  | 0 => .array .long
  | 1 => .int
  | 2 => .int
  | _ => .boolean
abbrev wsX60 : List Cond := u_ws RX6 TX6 4
theorem nmX6 : ∀ a, a < 4 → ∀ b, b < 4 → a ≠ b → (TX6 a).2.1 ≠ (TX6 b).2.1 := by decide +kernel
theorem tyX6_ok : ∀ k, k < 4 → parseFieldDescriptor (TX6 k).2.2.1 = some (tyX6 k) := by decide +kernel
abbrev cX6_init : ByteArray := prog_8_method_1_code
def yX6_init : MethodName := ⟨RX6, "<init>", "()V"⟩
abbrev cX6_isOverrun : ByteArray := prog_8_method_2_code
def yX6_isOverrun : MethodName := ⟨RX6, "isOverrun", "()Z"⟩
abbrev cX6_isDue : ByteArray := prog_8_method_3_code
def yX6_isDue : MethodName := ⟨RX6, "isDue", "()Z"⟩
abbrev cX6_clear : ByteArray := prog_8_method_4_code
def yX6_clear : MethodName := ⟨RX6, "clear", "()V"⟩
abbrev cX6_put : ByteArray := prog_8_method_5_code
def yX6_put : MethodName := ⟨RX6, "put", "(IIII)V"⟩
abbrev cX6_partOf : ByteArray := prog_8_method_6_code
def yX6_partOf : MethodName := ⟨RX6, "partOf", "(II)I"⟩
def RX7 : String := "PageDesk"
def TX7 : u_T := fun k => match k with
  | 0 => ("PageDesk", "parser", "LPageDesk$Parser;", true)
  | 1 => ("PageDesk", "paper", "LPageDesk$Paper;", true)
  | 2 => ("PageDesk", "layout", "LPageDesk$Layout;", true)
  | 3 => ("PageDesk", "slots", "[LPageDesk$Layout;", true)
  | 4 => ("PageDesk", "slotFilled", "[Z", true)
  | 5 => ("PageDesk", "sheet", "LPageDesk$Sheet;", true)
  | 6 => ("PageDesk", "donePages", "LPageDesk$DonePages;", true)
  | 7 => ("PageDesk", "others", "LPageDesk$OtherQueue;", true)
  | 8 => ("PageDesk", "toldSteps", "[I", true)
  | _ => ("PageDesk", "bytesCome", "I", false)
def tyX7 : Nat → FieldType := fun k => match k with
  | 0 => .object "PageDesk$Parser"
  | 1 => .object "PageDesk$Paper"
  | 2 => .object "PageDesk$Layout"
  | 3 => .array (.object "PageDesk$Layout")
  | 4 => .array .boolean
  | 5 => .object "PageDesk$Sheet"
  | 6 => .object "PageDesk$DonePages"
  | 7 => .object "PageDesk$OtherQueue"
  | 8 => .array .int
  | _ => .int
abbrev wsX70 : List Cond := u_ws RX7 TX7 10
theorem nmX7 : ∀ a, a < 10 → ∀ b, b < 10 → a ≠ b → (TX7 a).2.1 ≠ (TX7 b).2.1 := by decide +kernel
theorem tyX7_ok : ∀ k, k < 10 → parseFieldDescriptor (TX7 k).2.2.1 = some (tyX7 k) := by decide +kernel
abbrev cX7_init : ByteArray := prog_1_method_1_code
def yX7_init : MethodName := ⟨RX7, "<init>", "()V"⟩
abbrev cX7_feed : ByteArray := prog_1_method_2_code
def yX7_feed : MethodName := ⟨RX7, "feed", "(JI)Z"⟩
abbrev cX7_advance : ByteArray := prog_1_method_3_code
def yX7_advance : MethodName := ⟨RX7, "advance", "(III)Z"⟩
abbrev cX7_due : ByteArray := prog_1_method_4_code
def yX7_due : MethodName := ⟨RX7, "due", "()V"⟩
abbrev cX7_move : ByteArray := prog_1_method_5_code
def yX7_move : MethodName := ⟨RX7, "move", "(II)V"⟩
abbrev cX7_keep : ByteArray := prog_1_method_6_code
def yX7_keep : MethodName := ⟨RX7, "keep", "(I)Z"⟩
abbrev cX7_bring : ByteArray := prog_1_method_7_code
def yX7_bring : MethodName := ⟨RX7, "bring", "(I)Z"⟩
abbrev cX7_glyph : ByteArray := prog_1_method_8_code
def yX7_glyph : MethodName := ⟨RX7, "glyph", "(II)I"⟩
abbrev cX7_page : ByteArray := prog_1_method_9_code
def yX7_page : MethodName := ⟨RX7, "page", "(II)I"⟩
abbrev cX7_other : ByteArray := prog_1_method_10_code
def yX7_other : MethodName := ⟨RX7, "other", "(I)I"⟩
abbrev cX7_data : ByteArray := prog_1_method_11_code
def yX7_data : MethodName := ⟨RX7, "data", "(I)J"⟩
abbrev cX7_take : ByteArray := prog_1_method_12_code
def yX7_take : MethodName := ⟨RX7, "take", "()Z"⟩
abbrev cX7_place : ByteArray := prog_1_method_13_code
def yX7_place : MethodName := ⟨RX7, "place", "(IZ)I"⟩
abbrev cX7_look : ByteArray := prog_1_method_14_code
def yX7_look : MethodName := ⟨RX7, "look", "(I)I"⟩
abbrev cX7_byteComes : ByteArray := prog_1_method_15_code
def yX7_byteComes : MethodName := ⟨RX7, "byteComes", "(I)V"⟩
abbrev cX7_reset : ByteArray := prog_1_method_16_code
def yX7_reset : MethodName := ⟨RX7, "reset", "()V"⟩
abbrev cX7_setDefaults : ByteArray := prog_1_method_17_code
def yX7_setDefaults : MethodName := ⟨RX7, "setDefaults", "()V"⟩
abbrev cX7_changePaper : ByteArray := prog_1_method_18_code
def yX7_changePaper : MethodName := ⟨RX7, "changePaper", "(II)V"⟩
abbrev cX7_eject : ByteArray := prog_1_method_19_code
def yX7_eject : MethodName := ⟨RX7, "eject", "()V"⟩
abbrev cX7_setX : ByteArray := prog_1_method_20_code
def yX7_setX : MethodName := ⟨RX7, "setX", "(J)V"⟩
abbrev cX7_setY : ByteArray := prog_1_method_21_code
def yX7_setY : MethodName := ⟨RX7, "setY", "(J)V"⟩
abbrev cX7_within : ByteArray := prog_1_method_22_code
def yX7_within : MethodName := ⟨RX7, "within", "(JII)I"⟩
abbrev cX7_character : ByteArray := prog_1_method_23_code
def yX7_character : MethodName := ⟨RX7, "character", "(I)V"⟩
abbrev cX7_controlCode : ByteArray := prog_1_method_24_code
def yX7_controlCode : MethodName := ⟨RX7, "controlCode", "(I)V"⟩
abbrev cX7_backspace : ByteArray := prog_1_method_25_code
def yX7_backspace : MethodName := ⟨RX7, "backspace", "()V"⟩
abbrev cX7_tab : ByteArray := prog_1_method_26_code
def yX7_tab : MethodName := ⟨RX7, "tab", "()V"⟩
abbrev cX7_returnIfLineEndsSo : ByteArray := prog_1_method_27_code
def yX7_returnIfLineEndsSo : MethodName := ⟨RX7, "returnIfLineEndsSo", "()V"⟩
abbrev cX7_returnWithLineEnd : ByteArray := prog_1_method_28_code
def yX7_returnWithLineEnd : MethodName := ⟨RX7, "returnWithLineEnd", "()V"⟩
abbrev cX7_carriageReturn : ByteArray := prog_1_method_29_code
def yX7_carriageReturn : MethodName := ⟨RX7, "carriageReturn", "()V"⟩
abbrev cX7_lineFeed : ByteArray := prog_1_method_30_code
def yX7_lineFeed : MethodName := ⟨RX7, "lineFeed", "(I)V"⟩
abbrev cX7_shortSequence : ByteArray := prog_1_method_31_code
def yX7_shortSequence : MethodName := ⟨RX7, "shortSequence", "(I)V"⟩
abbrev cX7_command : ByteArray := prog_1_method_32_code
def yX7_command : MethodName := ⟨RX7, "command", "()V"⟩
abbrev cX7_pageCommand : ByteArray := prog_1_method_33_code
def yX7_pageCommand : MethodName := ⟨RX7, "pageCommand", "(JJ)Z"⟩
abbrev cX7_setStepDown : ByteArray := prog_1_method_34_code
def yX7_setStepDown : MethodName := ⟨RX7, "setStepDown", "(J)V"⟩
abbrev cX7_setLinesPerInch : ByteArray := prog_1_method_35_code
def yX7_setLinesPerInch : MethodName := ⟨RX7, "setLinesPerInch", "(I)V"⟩
abbrev cX7_setTop : ByteArray := prog_1_method_36_code
def yX7_setTop : MethodName := ⟨RX7, "setTop", "(J)V"⟩
abbrev cX7_setLength : ByteArray := prog_1_method_37_code
def yX7_setLength : MethodName := ⟨RX7, "setLength", "(J)V"⟩
abbrev cX7_spacingCommand : ByteArray := prog_1_method_38_code
def yX7_spacingCommand : MethodName := ⟨RX7, "spacingCommand", "(JJ)Z"⟩
abbrev cX7_marginCommand : ByteArray := prog_1_method_39_code
def yX7_marginCommand : MethodName := ⟨RX7, "marginCommand", "(J)Z"⟩
abbrev cX7_setLeft : ByteArray := prog_1_method_40_code
def yX7_setLeft : MethodName := ⟨RX7, "setLeft", "(J)V"⟩
abbrev cX7_setRight : ByteArray := prog_1_method_41_code
def yX7_setRight : MethodName := ⟨RX7, "setRight", "(J)V"⟩
abbrev cX7_wrapCommand : ByteArray := prog_1_method_42_code
def yX7_wrapCommand : MethodName := ⟨RX7, "wrapCommand", "(J)Z"⟩
abbrev cX7_stackCommand : ByteArray := prog_1_method_43_code
def yX7_stackCommand : MethodName := ⟨RX7, "stackCommand", "(J)Z"⟩
abbrev cX7_cursorCommand : ByteArray := prog_1_method_44_code
def yX7_cursorCommand : MethodName := ⟨RX7, "cursorCommand", "()Z"⟩
abbrev cX7_dotCommand : ByteArray := prog_1_method_45_code
def yX7_dotCommand : MethodName := ⟨RX7, "dotCommand", "()Z"⟩
abbrev cX7_goAcross : ByteArray := prog_1_method_46_code
def yX7_goAcross : MethodName := ⟨RX7, "goAcross", "(J)V"⟩
abbrev cX7_goDown : ByteArray := prog_1_method_47_code
def yX7_goDown : MethodName := ⟨RX7, "goDown", "(IJ)V"⟩
def RX8 : String := "PageDeskModel"
def TX8 : u_T := fun k => match k with
  | 0 => ("PageDeskModel", "thrown", "I", false)
  | 1 => ("PageDeskModel", "state", "[I", true)
  | 2 => ("PageDeskModel", "kept", "[I", true)
  | 3 => ("PageDeskModel", "isKept", "[Z", true)
  | 4 => ("PageDeskModel", "size", "I", false)
  | 5 => ("PageDeskModel", "orientation", "I", false)
  | 6 => ("PageDeskModel", "copies", "I", false)
  | 7 => ("PageDeskModel", "width", "I", false)
  | 8 => ("PageDeskModel", "height", "I", false)
  | 9 => ("PageDeskModel", "steps", "[I", true)
  | 10 => ("PageDeskModel", "phase", "I", false)
  | 11 => ("PageDeskModel", "family", "I", false)
  | 12 => ("PageDeskModel", "group", "I", false)
  | 13 => ("PageDeskModel", "part", "I", false)
  | 14 => ("PageDeskModel", "signed", "Z", false)
  | 15 => ("PageDeskModel", "negative", "Z", false)
  | 16 => ("PageDeskModel", "whole", "I", false)
  | 17 => ("PageDeskModel", "behind", "I", false)
  | 18 => ("PageDeskModel", "places", "I", false)
  | 19 => ("PageDeskModel", "dataLeft", "I", false)
  | 20 => ("PageDeskModel", "last", "Z", false)
  | 21 => ("PageDeskModel", "dataTo", "I", false)
  | 22 => ("PageDeskModel", "bytesCame", "I", false)
  | 23 => ("PageDeskModel", "glyphs", "I", false)
  | 24 => ("PageDeskModel", "allGlyphs", "I", false)
  | 25 => ("PageDeskModel", "touched", "Z", false)
  | 26 => ("PageDeskModel", "glyph", "[I", true)
  | 27 => ("PageDeskModel", "pages", "I", false)
  | 28 => ("PageDeskModel", "page", "[I", true)
  | 29 => ("PageDeskModel", "others", "I", false)
  | 30 => ("PageDeskModel", "other", "[I", true)
  | 31 => ("PageDeskModel", "stored", "I", false)
  | _ => ("PageDeskModel", "store", "[B", true)
def tyX8 : Nat → FieldType := fun k => match k with
  | 0 => .int
  | 1 => .array .int
  | 2 => .array .int
  | 3 => .array .boolean
  | 4 => .int
  | 5 => .int
  | 6 => .int
  | 7 => .int
  | 8 => .int
  | 9 => .array .int
  | 10 => .int
  | 11 => .int
  | 12 => .int
  | 13 => .int
  | 14 => .boolean
  | 15 => .boolean
  | 16 => .int
  | 17 => .int
  | 18 => .int
  | 19 => .int
  | 20 => .boolean
  | 21 => .int
  | 22 => .int
  | 23 => .int
  | 24 => .int
  | 25 => .boolean
  | 26 => .array .int
  | 27 => .int
  | 28 => .array .int
  | 29 => .int
  | 30 => .array .int
  | 31 => .int
  | _ => .array .byte
abbrev wsX80 : List Cond := u_ws RX8 TX8 33
theorem nmX8 : ∀ a, a < 33 → ∀ b, b < 33 → a ≠ b → (TX8 a).2.1 ≠ (TX8 b).2.1 := by decide +kernel
theorem tyX8_ok : ∀ k, k < 33 → parseFieldDescriptor (TX8 k).2.2.1 = some (tyX8 k) := by decide +kernel
abbrev cX8_init : ByteArray := prog_10_method_1_code
def yX8_init : MethodName := ⟨RX8, "<init>", "()V"⟩
abbrev cX8_thrown : ByteArray := prog_10_method_2_code
def yX8_thrown : MethodName := ⟨RX8, "thrown", "()I"⟩
abbrev cX8_across : ByteArray := prog_10_method_3_code
def yX8_across : MethodName := ⟨RX8, "across", "(I)I"⟩
abbrev cX8_down : ByteArray := prog_10_method_4_code
def yX8_down : MethodName := ⟨RX8, "down", "(I)I"⟩
abbrev cX8_measure : ByteArray := prog_10_method_5_code
def yX8_measure : MethodName := ⟨RX8, "measure", "()V"⟩
abbrev cX8_within : ByteArray := prog_10_method_6_code
def yX8_within : MethodName := ⟨RX8, "within", "(JI)I"⟩
abbrev cX8_setX : ByteArray := prog_10_method_7_code
def yX8_setX : MethodName := ⟨RX8, "setX", "(J)V"⟩
abbrev cX8_setY : ByteArray := prog_10_method_8_code
def yX8_setY : MethodName := ⟨RX8, "setY", "(J)V"⟩
abbrev cX8_home : ByteArray := prog_10_method_9_code
def yX8_home : MethodName := ⟨RX8, "home", "()I"⟩
abbrev cX8_defaults : ByteArray := prog_10_method_10_code
def yX8_defaults : MethodName := ⟨RX8, "defaults", "()V"⟩
abbrev cX8_reset : ByteArray := prog_10_method_11_code
def yX8_reset : MethodName := ⟨RX8, "reset", "()V"⟩
abbrev cX8_eject : ByteArray := prog_10_method_12_code
def yX8_eject : MethodName := ⟨RX8, "eject", "()V"⟩
abbrev cX8_ejectIfDue : ByteArray := prog_10_method_13_code
def yX8_ejectIfDue : MethodName := ⟨RX8, "ejectIfDue", "()V"⟩
abbrev cX8_lineFeed : ByteArray := prog_10_method_14_code
def yX8_lineFeed : MethodName := ⟨RX8, "lineFeed", "(I)V"⟩
abbrev cX8_carriageReturn : ByteArray := prog_10_method_15_code
def yX8_carriageReturn : MethodName := ⟨RX8, "carriageReturn", "()V"⟩
abbrev cX8_character : ByteArray := prog_10_method_16_code
def yX8_character : MethodName := ⟨RX8, "character", "(I)V"⟩
abbrev cX8_tab : ByteArray := prog_10_method_17_code
def yX8_tab : MethodName := ⟨RX8, "tab", "()V"⟩
abbrev cX8_control : ByteArray := prog_10_method_18_code
def yX8_control : MethodName := ⟨RX8, "control", "(I)V"⟩
abbrev cX8_shortSequence : ByteArray := prog_10_method_19_code
def yX8_shortSequence : MethodName := ⟨RX8, "shortSequence", "(I)V"⟩
abbrev cX8_beginField : ByteArray := prog_10_method_20_code
def yX8_beginField : MethodName := ⟨RX8, "beginField", "()V"⟩
abbrev cX8_behindEsc : ByteArray := prog_10_method_21_code
def yX8_behindEsc : MethodName := ⟨RX8, "behindEsc", "(I)V"⟩
abbrev cX8_field : ByteArray := prog_10_method_22_code
def yX8_field : MethodName := ⟨RX8, "field", "(I)V"⟩
abbrev cX8_value : ByteArray := prog_10_method_23_code
def yX8_value : MethodName := ⟨RX8, "value", "()I"⟩
abbrev cX8_command : ByteArray := prog_10_method_24_code
def yX8_command : MethodName := ⟨RX8, "command", "(IZ)V"⟩
abbrev cX8_handOn : ByteArray := prog_10_method_25_code
def yX8_handOn : MethodName := ⟨RX8, "handOn", "(II)V"⟩
abbrev cX8_datum : ByteArray := prog_10_method_26_code
def yX8_datum : MethodName := ⟨RX8, "datum", "(I)V"⟩
abbrev cX8_comes : ByteArray := prog_10_method_27_code
def yX8_comes : MethodName := ⟨RX8, "comes", "(I)V"⟩
abbrev cX8_feed : ByteArray := prog_10_method_28_code
def yX8_feed : MethodName := ⟨RX8, "feed", "(JI)Z"⟩
abbrev cX8_is : ByteArray := prog_10_method_29_code
def yX8_is : MethodName := ⟨RX8, "is", "(IIII)Z"⟩
abbrev cX8_known : ByteArray := prog_10_method_30_code
def yX8_known : MethodName := ⟨RX8, "known", "(III)Z"⟩
abbrev cX8_stack : ByteArray := prog_10_method_31_code
def yX8_stack : MethodName := ⟨RX8, "stack", "(I)V"⟩
abbrev cX8_cursor : ByteArray := prog_10_method_32_code
def yX8_cursor : MethodName := ⟨RX8, "cursor", "(IIJ)Z"⟩
abbrev cX8_divides : ByteArray := prog_10_method_33_code
def yX8_divides : MethodName := ⟨RX8, "divides", "(I)Z"⟩
abbrev cX8_paging : ByteArray := prog_10_method_34_code
def yX8_paging : MethodName := ⟨RX8, "paging", "(IJI)Z"⟩
abbrev cX8_advance : ByteArray := prog_10_method_35_code
def yX8_advance : MethodName := ⟨RX8, "advance", "(III)Z"⟩
abbrev cX8_move : ByteArray := prog_10_method_36_code
def yX8_move : MethodName := ⟨RX8, "move", "(II)V"⟩
abbrev cX8_due : ByteArray := prog_10_method_37_code
def yX8_due : MethodName := ⟨RX8, "due", "()V"⟩
abbrev cX8_keep : ByteArray := prog_10_method_38_code
def yX8_keep : MethodName := ⟨RX8, "keep", "(I)Z"⟩
abbrev cX8_bring : ByteArray := prog_10_method_39_code
def yX8_bring : MethodName := ⟨RX8, "bring", "(I)Z"⟩
abbrev cX8_glyph : ByteArray := prog_10_method_40_code
def yX8_glyph : MethodName := ⟨RX8, "glyph", "(II)I"⟩
abbrev cX8_page : ByteArray := prog_10_method_41_code
def yX8_page : MethodName := ⟨RX8, "page", "(II)I"⟩
abbrev cX8_other : ByteArray := prog_10_method_42_code
def yX8_other : MethodName := ⟨RX8, "other", "(I)I"⟩
abbrev cX8_data : ByteArray := prog_10_method_43_code
def yX8_data : MethodName := ⟨RX8, "data", "(I)J"⟩
abbrev cX8_take : ByteArray := prog_10_method_44_code
def yX8_take : MethodName := ⟨RX8, "take", "()Z"⟩
abbrev cX8_place : ByteArray := prog_10_method_45_code
def yX8_place : MethodName := ⟨RX8, "place", "(IZ)I"⟩
abbrev cX8_look : ByteArray := prog_10_method_46_code
def yX8_look : MethodName := ⟨RX8, "look", "(I)I"⟩
def RJ9 : String := "java/lang/Math"
def TJ9 : u_T := fun k => match k with
  | _ => ("", "", "", false)
def tyJ9 : Nat → FieldType := fun k => match k with
  | _ => .int
abbrev wsJ90 : List Cond := u_ws RJ9 TJ9 0
theorem nmJ9 : ∀ a, a < 0 → ∀ b, b < 0 → a ≠ b → (TJ9 a).2.1 ≠ (TJ9 b).2.1 := by decide +kernel
theorem tyJ9_ok : ∀ k, k < 0 → parseFieldDescriptor (TJ9 k).2.2.1 = some (tyJ9 k) := by decide +kernel
abbrev cJ9_floorMod_7cf53 : ByteArray := prog_14_method_50_code
def yJ9_floorMod_7cf53 : MethodName := ⟨RJ9, "floorMod", "(II)I"⟩
abbrev cJ9_min_7cf53 : ByteArray := prog_14_method_69_code
def yJ9_min_7cf53 : MethodName := ⟨RJ9, "min", "(II)I"⟩
def RJ10 : String := "java/lang/System"
def TJ10 : u_T := fun k => match k with
  | _ => ("", "", "", false)
def tyJ10 : Nat → FieldType := fun k => match k with
  | _ => .int
abbrev wsJ100 : List Cond := u_ws RJ10 TJ10 0
theorem nmJ10 : ∀ a, a < 0 → ∀ b, b < 0 → a ≠ b → (TJ10 a).2.1 ≠ (TJ10 b).2.1 := by decide +kernel
theorem tyJ10_ok : ∀ k, k < 0 → parseFieldDescriptor (TJ10 k).2.2.1 = some (tyJ10 k) := by decide +kernel
def RJ7 : String := "java/util/Arrays"
def TJ7 : u_T := fun k => match k with
  | _ => ("", "", "", false)
def tyJ7 : Nat → FieldType := fun k => match k with
  | _ => .int
abbrev wsJ70 : List Cond := u_ws RJ7 TJ7 0
theorem nmJ7 : ∀ a, a < 0 → ∀ b, b < 0 → a ≠ b → (TJ7 a).2.1 ≠ (TJ7 b).2.1 := by decide +kernel
theorem tyJ7_ok : ∀ k, k < 0 → parseFieldDescriptor (TJ7 k).2.2.1 = some (tyJ7 k) := by decide +kernel
abbrev cJ7_fill_53178 : ByteArray := prog_18_method_103_code
def yJ7_fill_53178 : MethodName := ⟨RJ7, "fill", "([II)V"⟩
def RL : String := "PageDeskLaw"
abbrev cL_glyph : ByteArray := method_3_code
def yL_glyph : MethodName := ⟨RL, "glyph", "(LPageDesk;II[J)I"⟩
abbrev cL_page : ByteArray := method_4_code
def yL_page : MethodName := ⟨RL, "page", "(LPageDesk;II[J)I"⟩
abbrev cL_other : ByteArray := method_5_code
def yL_other : MethodName := ⟨RL, "other", "(LPageDesk;I[J)I"⟩
abbrev cL_data : ByteArray := method_6_code
def yL_data : MethodName := ⟨RL, "data", "(LPageDesk;I[J)I"⟩
abbrev cL_place : ByteArray := method_7_code
def yL_place : MethodName := ⟨RL, "place", "(LPageDesk;IZ[J)I"⟩
abbrev cL_law : ByteArray := code
def yL_law : MethodName := ⟨RL, "law", "([I)Z"⟩
abbrev vwCl : List vw_C := [(RX0, TX0, 2), (RX1, TX1, 15), (RX2, TX2, 7), (RX3, TX3, 7), (RX4, TX4, 5), (RX5, TX5, 13), (RX6, TX6, 4), (RX7, TX7, 10), (RX8, TX8, 33)]
end
section
theorem dX0_init_0 : decode cX0_init 0 = .ok (.aload_n 0, 1) := by decide +kernel
theorem dX0_init_1 : decode cX0_init 1 = .ok (.invokespecial 1, 3) := by decide +kernel
theorem dX0_init_4 : decode cX0_init 4 = .ok (.aload_n 0, 1) := by decide +kernel
theorem dX0_init_5 : decode cX0_init 5 = .ok (.sipush 160, 3) := by decide +kernel
theorem dX0_init_8 : decode cX0_init 8 = .ok (.newarray .int, 2) := by decide +kernel
theorem dX0_init_10 : decode cX0_init 10 = .ok (.putfield 9, 3) := by decide +kernel
theorem dX0_init_13 : decode cX0_init 13 = .ok (.return_, 1) := by decide +kernel
theorem dX0_add_0 : decode cX0_add 0 = .ok (.aload_n 0, 1) := by decide +kernel
theorem dX0_add_1 : decode cX0_add 1 = .ok (.getfield 13, 3) := by decide +kernel
theorem dX0_add_4 : decode cX0_add 4 = .ok (.bipush 40, 2) := by decide +kernel
theorem dX0_add_6 : decode cX0_add 6 = .ok (.invokestatic 17, 3) := by decide +kernel
theorem dX0_add_9 : decode cX0_add 9 = .ok (.iconst 4, 1) := by decide +kernel
theorem dX0_add_10 : decode cX0_add 10 = .ok (.imul, 1) := by decide +kernel
theorem dX0_add_11 : decode cX0_add 11 = .ok (.istore_n 3, 1) := by decide +kernel
theorem dX0_add_12 : decode cX0_add 12 = .ok (.aload_n 0, 1) := by decide +kernel
theorem dX0_add_13 : decode cX0_add 13 = .ok (.getfield 9, 3) := by decide +kernel
theorem dX0_add_16 : decode cX0_add 16 = .ok (.iload_n 3, 1) := by decide +kernel
theorem dX0_add_17 : decode cX0_add 17 = .ok (.iload_n 1, 1) := by decide +kernel
theorem dX0_add_18 : decode cX0_add 18 = .ok (.iastore, 1) := by decide +kernel
theorem dX0_add_19 : decode cX0_add 19 = .ok (.aload_n 0, 1) := by decide +kernel
theorem dX0_add_20 : decode cX0_add 20 = .ok (.getfield 9, 3) := by decide +kernel
theorem dX0_add_23 : decode cX0_add 23 = .ok (.iload_n 3, 1) := by decide +kernel
theorem dX0_add_24 : decode cX0_add 24 = .ok (.iconst 1, 1) := by decide +kernel
theorem dX0_add_25 : decode cX0_add 25 = .ok (.iadd, 1) := by decide +kernel
theorem dX0_add_26 : decode cX0_add 26 = .ok (.aload_n 2, 1) := by decide +kernel
theorem dX0_add_27 : decode cX0_add 27 = .ok (.getfield 23, 3) := by decide +kernel
theorem dX0_add_30 : decode cX0_add 30 = .ok (.iastore, 1) := by decide +kernel
theorem dX0_add_31 : decode cX0_add 31 = .ok (.aload_n 0, 1) := by decide +kernel
theorem dX0_add_32 : decode cX0_add 32 = .ok (.getfield 9, 3) := by decide +kernel
theorem dX0_add_35 : decode cX0_add 35 = .ok (.iload_n 3, 1) := by decide +kernel
theorem dX0_add_36 : decode cX0_add 36 = .ok (.iconst 2, 1) := by decide +kernel
theorem dX0_add_37 : decode cX0_add 37 = .ok (.iadd, 1) := by decide +kernel
theorem dX0_add_38 : decode cX0_add 38 = .ok (.aload_n 2, 1) := by decide +kernel
theorem dX0_add_39 : decode cX0_add 39 = .ok (.getfield 28, 3) := by decide +kernel
theorem dX0_add_42 : decode cX0_add 42 = .ok (.iastore, 1) := by decide +kernel
theorem dX0_add_43 : decode cX0_add 43 = .ok (.aload_n 0, 1) := by decide +kernel
theorem dX0_add_44 : decode cX0_add 44 = .ok (.getfield 9, 3) := by decide +kernel
theorem dX0_add_47 : decode cX0_add 47 = .ok (.iload_n 3, 1) := by decide +kernel
theorem dX0_add_48 : decode cX0_add 48 = .ok (.iconst 3, 1) := by decide +kernel
theorem dX0_add_49 : decode cX0_add 49 = .ok (.iadd, 1) := by decide +kernel
theorem dX0_add_50 : decode cX0_add 50 = .ok (.aload_n 2, 1) := by decide +kernel
theorem dX0_add_51 : decode cX0_add 51 = .ok (.getfield 31, 3) := by decide +kernel
theorem dX0_add_54 : decode cX0_add 54 = .ok (.iastore, 1) := by decide +kernel
theorem dX0_add_55 : decode cX0_add 55 = .ok (.aload_n 0, 1) := by decide +kernel
theorem dX0_add_56 : decode cX0_add 56 = .ok (.dup, 1) := by decide +kernel
theorem dX0_add_57 : decode cX0_add 57 = .ok (.getfield 13, 3) := by decide +kernel
theorem dX0_add_60 : decode cX0_add 60 = .ok (.iconst 1, 1) := by decide +kernel
theorem dX0_add_61 : decode cX0_add 61 = .ok (.iadd, 1) := by decide +kernel
theorem dX0_add_62 : decode cX0_add 62 = .ok (.putfield 13, 3) := by decide +kernel
theorem dX0_add_65 : decode cX0_add 65 = .ok (.return_, 1) := by decide +kernel
theorem dX0_has_0 : decode cX0_has 0 = .ok (.iload_n 1, 1) := by decide +kernel
theorem dX0_has_1 : decode cX0_has 1 = .ok (.ifCond .lt 26, 3) := by decide +kernel
theorem dX0_has_4 : decode cX0_has 4 = .ok (.iload_n 1, 1) := by decide +kernel
theorem dX0_has_5 : decode cX0_has 5 = .ok (.aload_n 0, 1) := by decide +kernel
theorem dX0_has_6 : decode cX0_has 6 = .ok (.getfield 13, 3) := by decide +kernel
theorem dX0_has_9 : decode cX0_has 9 = .ok (.if_icmp .ge 18, 3) := by decide +kernel
theorem dX0_has_12 : decode cX0_has 12 = .ok (.iload_n 1, 1) := by decide +kernel
theorem dX0_has_13 : decode cX0_has 13 = .ok (.aload_n 0, 1) := by decide +kernel
theorem dX0_has_14 : decode cX0_has 14 = .ok (.getfield 13, 3) := by decide +kernel
theorem dX0_has_17 : decode cX0_has 17 = .ok (.bipush 40, 2) := by decide +kernel
theorem dX0_has_19 : decode cX0_has 19 = .ok (.isub, 1) := by decide +kernel
theorem dX0_has_20 : decode cX0_has 20 = .ok (.if_icmp .lt 7, 3) := by decide +kernel
theorem dX0_has_23 : decode cX0_has 23 = .ok (.iconst 1, 1) := by decide +kernel
theorem dX0_has_24 : decode cX0_has 24 = .ok (.goto 4, 3) := by decide +kernel
theorem dX0_has_27 : decode cX0_has 27 = .ok (.iconst 0, 1) := by decide +kernel
theorem dX0_has_28 : decode cX0_has 28 = .ok (.ireturn, 1) := by decide +kernel
theorem dX0_partOf_0 : decode cX0_partOf 0 = .ok (.aload_n 0, 1) := by decide +kernel
theorem dX0_partOf_1 : decode cX0_partOf 1 = .ok (.getfield 9, 3) := by decide +kernel
theorem dX0_partOf_4 : decode cX0_partOf 4 = .ok (.iload_n 1, 1) := by decide +kernel
theorem dX0_partOf_5 : decode cX0_partOf 5 = .ok (.bipush 40, 2) := by decide +kernel
theorem dX0_partOf_7 : decode cX0_partOf 7 = .ok (.invokestatic 17, 3) := by decide +kernel
theorem dX0_partOf_10 : decode cX0_partOf 10 = .ok (.iconst 4, 1) := by decide +kernel
theorem dX0_partOf_11 : decode cX0_partOf 11 = .ok (.imul, 1) := by decide +kernel
theorem dX0_partOf_12 : decode cX0_partOf 12 = .ok (.iload_n 2, 1) := by decide +kernel
theorem dX0_partOf_13 : decode cX0_partOf 13 = .ok (.iadd, 1) := by decide +kernel
theorem dX0_partOf_14 : decode cX0_partOf 14 = .ok (.iaload, 1) := by decide +kernel
theorem dX0_partOf_15 : decode cX0_partOf 15 = .ok (.ireturn, 1) := by decide +kernel
theorem dX1_init_0 : decode cX1_init 0 = .ok (.aload_n 0, 1) := by decide +kernel
theorem dX1_init_1 : decode cX1_init 1 = .ok (.invokespecial 1, 3) := by decide +kernel
theorem dX1_init_4 : decode cX1_init 4 = .ok (.aload_n 0, 1) := by decide +kernel
theorem dX1_init_5 : decode cX1_init 5 = .ok (.bipush 20, 2) := by decide +kernel
theorem dX1_init_7 : decode cX1_init 7 = .ok (.newarray .int, 2) := by decide +kernel
theorem dX1_init_9 : decode cX1_init 9 = .ok (.putfield 9, 3) := by decide +kernel
theorem dX1_init_12 : decode cX1_init 12 = .ok (.aload_n 0, 1) := by decide +kernel
theorem dX1_init_13 : decode cX1_init 13 = .ok (.bipush 20, 2) := by decide +kernel
theorem dX1_init_15 : decode cX1_init 15 = .ok (.newarray .int, 2) := by decide +kernel
theorem dX1_init_17 : decode cX1_init 17 = .ok (.putfield 13, 3) := by decide +kernel
theorem dX1_init_20 : decode cX1_init 20 = .ok (.return_, 1) := by decide +kernel
theorem dX1_home_0 : decode cX1_home 0 = .ok (.aload_n 0, 1) := by decide +kernel
theorem dX1_home_1 : decode cX1_home 1 = .ok (.getfield 16, 3) := by decide +kernel
theorem dX1_home_4 : decode cX1_home 4 = .ok (.aload_n 0, 1) := by decide +kernel
theorem dX1_home_5 : decode cX1_home 5 = .ok (.getfield 20, 3) := by decide +kernel
theorem dX1_home_8 : decode cX1_home 8 = .ok (.iconst 3, 1) := by decide +kernel
theorem dX1_home_9 : decode cX1_home 9 = .ok (.imul, 1) := by decide +kernel
theorem dX1_home_10 : decode cX1_home 10 = .ok (.iconst 4, 1) := by decide +kernel
theorem dX1_home_11 : decode cX1_home 11 = .ok (.idiv, 1) := by decide +kernel
theorem dX1_home_12 : decode cX1_home 12 = .ok (.iadd, 1) := by decide +kernel
theorem dX1_home_13 : decode cX1_home 13 = .ok (.ireturn, 1) := by decide +kernel
theorem dX1_push_0 : decode cX1_push 0 = .ok (.aload_n 0, 1) := by decide +kernel
theorem dX1_push_1 : decode cX1_push 1 = .ok (.getfield 23, 3) := by decide +kernel
theorem dX1_push_4 : decode cX1_push 4 = .ok (.bipush 20, 2) := by decide +kernel
theorem dX1_push_6 : decode cX1_push 6 = .ok (.if_icmp .ge 39, 3) := by decide +kernel
theorem dX1_push_9 : decode cX1_push 9 = .ok (.aload_n 0, 1) := by decide +kernel
theorem dX1_push_10 : decode cX1_push 10 = .ok (.getfield 9, 3) := by decide +kernel
theorem dX1_push_13 : decode cX1_push 13 = .ok (.aload_n 0, 1) := by decide +kernel
theorem dX1_push_14 : decode cX1_push 14 = .ok (.getfield 23, 3) := by decide +kernel
theorem dX1_push_17 : decode cX1_push 17 = .ok (.aload_n 0, 1) := by decide +kernel
theorem dX1_push_18 : decode cX1_push 18 = .ok (.getfield 26, 3) := by decide +kernel
theorem dX1_push_21 : decode cX1_push 21 = .ok (.iastore, 1) := by decide +kernel
theorem dX1_push_22 : decode cX1_push 22 = .ok (.aload_n 0, 1) := by decide +kernel
theorem dX1_push_23 : decode cX1_push 23 = .ok (.getfield 13, 3) := by decide +kernel
theorem dX1_push_26 : decode cX1_push 26 = .ok (.aload_n 0, 1) := by decide +kernel
theorem dX1_push_27 : decode cX1_push 27 = .ok (.getfield 23, 3) := by decide +kernel
theorem dX1_push_30 : decode cX1_push 30 = .ok (.aload_n 0, 1) := by decide +kernel
theorem dX1_push_31 : decode cX1_push 31 = .ok (.getfield 29, 3) := by decide +kernel
theorem dX1_push_34 : decode cX1_push 34 = .ok (.iastore, 1) := by decide +kernel
theorem dX1_push_35 : decode cX1_push 35 = .ok (.aload_n 0, 1) := by decide +kernel
theorem dX1_push_36 : decode cX1_push 36 = .ok (.dup, 1) := by decide +kernel
theorem dX1_push_37 : decode cX1_push 37 = .ok (.getfield 23, 3) := by decide +kernel
theorem dX1_push_40 : decode cX1_push 40 = .ok (.iconst 1, 1) := by decide +kernel
theorem dX1_push_41 : decode cX1_push 41 = .ok (.iadd, 1) := by decide +kernel
theorem dX1_push_42 : decode cX1_push 42 = .ok (.putfield 23, 3) := by decide +kernel
theorem dX1_push_45 : decode cX1_push 45 = .ok (.return_, 1) := by decide +kernel
theorem dX1_copyFrom_0 : decode cX1_copyFrom 0 = .ok (.aload_n 0, 1) := by decide +kernel
theorem dX1_copyFrom_1 : decode cX1_copyFrom 1 = .ok (.aload_n 1, 1) := by decide +kernel
theorem dX1_copyFrom_2 : decode cX1_copyFrom 2 = .ok (.getfield 16, 3) := by decide +kernel
theorem dX1_copyFrom_5 : decode cX1_copyFrom 5 = .ok (.putfield 16, 3) := by decide +kernel
theorem dX1_copyFrom_8 : decode cX1_copyFrom 8 = .ok (.aload_n 0, 1) := by decide +kernel
theorem dX1_copyFrom_9 : decode cX1_copyFrom 9 = .ok (.aload_n 1, 1) := by decide +kernel
theorem dX1_copyFrom_10 : decode cX1_copyFrom 10 = .ok (.getfield 32, 3) := by decide +kernel
theorem dX1_copyFrom_13 : decode cX1_copyFrom 13 = .ok (.putfield 32, 3) := by decide +kernel
theorem dX1_copyFrom_16 : decode cX1_copyFrom 16 = .ok (.aload_n 0, 1) := by decide +kernel
theorem dX1_copyFrom_17 : decode cX1_copyFrom 17 = .ok (.aload_n 1, 1) := by decide +kernel
theorem dX1_copyFrom_18 : decode cX1_copyFrom 18 = .ok (.getfield 35, 3) := by decide +kernel
theorem dX1_copyFrom_21 : decode cX1_copyFrom 21 = .ok (.putfield 35, 3) := by decide +kernel
theorem dX1_copyFrom_24 : decode cX1_copyFrom 24 = .ok (.aload_n 0, 1) := by decide +kernel
theorem dX1_copyFrom_25 : decode cX1_copyFrom 25 = .ok (.aload_n 1, 1) := by decide +kernel
theorem dX1_copyFrom_26 : decode cX1_copyFrom 26 = .ok (.getfield 38, 3) := by decide +kernel
theorem dX1_copyFrom_29 : decode cX1_copyFrom 29 = .ok (.putfield 38, 3) := by decide +kernel
theorem dX1_copyFrom_32 : decode cX1_copyFrom 32 = .ok (.aload_n 0, 1) := by decide +kernel
theorem dX1_copyFrom_33 : decode cX1_copyFrom 33 = .ok (.aload_n 1, 1) := by decide +kernel
theorem dX1_copyFrom_34 : decode cX1_copyFrom 34 = .ok (.getfield 41, 3) := by decide +kernel
theorem dX1_copyFrom_37 : decode cX1_copyFrom 37 = .ok (.putfield 41, 3) := by decide +kernel
theorem dX1_copyFrom_40 : decode cX1_copyFrom 40 = .ok (.aload_n 0, 1) := by decide +kernel
theorem dX1_copyFrom_41 : decode cX1_copyFrom 41 = .ok (.aload_n 1, 1) := by decide +kernel
theorem dX1_copyFrom_42 : decode cX1_copyFrom 42 = .ok (.getfield 20, 3) := by decide +kernel
theorem dX1_copyFrom_45 : decode cX1_copyFrom 45 = .ok (.putfield 20, 3) := by decide +kernel
theorem dX1_copyFrom_48 : decode cX1_copyFrom 48 = .ok (.aload_n 0, 1) := by decide +kernel
theorem dX1_copyFrom_49 : decode cX1_copyFrom 49 = .ok (.aload_n 1, 1) := by decide +kernel
theorem dX1_copyFrom_50 : decode cX1_copyFrom 50 = .ok (.getfield 26, 3) := by decide +kernel
theorem dX1_copyFrom_53 : decode cX1_copyFrom 53 = .ok (.putfield 26, 3) := by decide +kernel
theorem dX1_copyFrom_56 : decode cX1_copyFrom 56 = .ok (.aload_n 0, 1) := by decide +kernel
theorem dX1_copyFrom_57 : decode cX1_copyFrom 57 = .ok (.aload_n 1, 1) := by decide +kernel
theorem dX1_copyFrom_58 : decode cX1_copyFrom 58 = .ok (.getfield 29, 3) := by decide +kernel
theorem dX1_copyFrom_61 : decode cX1_copyFrom 61 = .ok (.putfield 29, 3) := by decide +kernel
theorem dX1_copyFrom_64 : decode cX1_copyFrom 64 = .ok (.aload_n 0, 1) := by decide +kernel
theorem dX1_copyFrom_65 : decode cX1_copyFrom 65 = .ok (.aload_n 1, 1) := by decide +kernel
theorem dX1_copyFrom_66 : decode cX1_copyFrom 66 = .ok (.getfield 44, 3) := by decide +kernel
theorem dX1_copyFrom_69 : decode cX1_copyFrom 69 = .ok (.putfield 44, 3) := by decide +kernel
theorem dX1_copyFrom_72 : decode cX1_copyFrom 72 = .ok (.aload_n 0, 1) := by decide +kernel
theorem dX1_copyFrom_73 : decode cX1_copyFrom 73 = .ok (.aload_n 1, 1) := by decide +kernel
theorem dX1_copyFrom_74 : decode cX1_copyFrom 74 = .ok (.getfield 48, 3) := by decide +kernel
theorem dX1_copyFrom_77 : decode cX1_copyFrom 77 = .ok (.putfield 48, 3) := by decide +kernel
theorem dX1_copyFrom_80 : decode cX1_copyFrom 80 = .ok (.aload_n 0, 1) := by decide +kernel
theorem dX1_copyFrom_81 : decode cX1_copyFrom 81 = .ok (.aload_n 1, 1) := by decide +kernel
theorem dX1_copyFrom_82 : decode cX1_copyFrom 82 = .ok (.getfield 51, 3) := by decide +kernel
theorem dX1_copyFrom_85 : decode cX1_copyFrom 85 = .ok (.putfield 51, 3) := by decide +kernel
theorem dX1_copyFrom_88 : decode cX1_copyFrom 88 = .ok (.aload_n 0, 1) := by decide +kernel
theorem dX1_copyFrom_89 : decode cX1_copyFrom 89 = .ok (.aload_n 1, 1) := by decide +kernel
theorem dX1_copyFrom_90 : decode cX1_copyFrom 90 = .ok (.getfield 54, 3) := by decide +kernel
theorem dX1_copyFrom_93 : decode cX1_copyFrom 93 = .ok (.putfield 54, 3) := by decide +kernel
theorem dX1_copyFrom_96 : decode cX1_copyFrom 96 = .ok (.aload_n 0, 1) := by decide +kernel
theorem dX1_copyFrom_97 : decode cX1_copyFrom 97 = .ok (.aload_n 1, 1) := by decide +kernel
theorem dX1_copyFrom_98 : decode cX1_copyFrom 98 = .ok (.getfield 23, 3) := by decide +kernel
theorem dX1_copyFrom_101 : decode cX1_copyFrom 101 = .ok (.putfield 23, 3) := by decide +kernel
theorem dX1_copyFrom_104 : decode cX1_copyFrom 104 = .ok (.aload_n 1, 1) := by decide +kernel
theorem dX1_copyFrom_105 : decode cX1_copyFrom 105 = .ok (.getfield 9, 3) := by decide +kernel
theorem dX1_copyFrom_108 : decode cX1_copyFrom 108 = .ok (.iconst 0, 1) := by decide +kernel
theorem dX1_copyFrom_109 : decode cX1_copyFrom 109 = .ok (.aload_n 0, 1) := by decide +kernel
theorem dX1_copyFrom_110 : decode cX1_copyFrom 110 = .ok (.getfield 9, 3) := by decide +kernel
theorem dX1_copyFrom_113 : decode cX1_copyFrom 113 = .ok (.iconst 0, 1) := by decide +kernel
theorem dX1_copyFrom_114 : decode cX1_copyFrom 114 = .ok (.bipush 20, 2) := by decide +kernel
theorem dX1_copyFrom_116 : decode cX1_copyFrom 116 = .ok (.invokestatic 57, 3) := by decide +kernel
theorem dX1_copyFrom_119 : decode cX1_copyFrom 119 = .ok (.aload_n 1, 1) := by decide +kernel
theorem dX1_copyFrom_120 : decode cX1_copyFrom 120 = .ok (.getfield 13, 3) := by decide +kernel
theorem dX1_copyFrom_123 : decode cX1_copyFrom 123 = .ok (.iconst 0, 1) := by decide +kernel
theorem dX1_copyFrom_124 : decode cX1_copyFrom 124 = .ok (.aload_n 0, 1) := by decide +kernel
theorem dX1_copyFrom_125 : decode cX1_copyFrom 125 = .ok (.getfield 13, 3) := by decide +kernel
theorem dX1_copyFrom_128 : decode cX1_copyFrom 128 = .ok (.iconst 0, 1) := by decide +kernel
theorem dX1_copyFrom_129 : decode cX1_copyFrom 129 = .ok (.bipush 20, 2) := by decide +kernel
theorem dX1_copyFrom_131 : decode cX1_copyFrom 131 = .ok (.invokestatic 57, 3) := by decide +kernel
theorem dX1_copyFrom_134 : decode cX1_copyFrom 134 = .ok (.return_, 1) := by decide +kernel
theorem dX2_init_0 : decode cX2_init 0 = .ok (.aload_n 0, 1) := by decide +kernel
theorem dX2_init_1 : decode cX2_init 1 = .ok (.invokespecial 1, 3) := by decide +kernel
theorem dX2_init_4 : decode cX2_init 4 = .ok (.return_, 1) := by decide +kernel
theorem dX3_init_0 : decode cX3_init 0 = .ok (.aload_n 0, 1) := by decide +kernel
theorem dX3_init_1 : decode cX3_init 1 = .ok (.invokespecial 1, 3) := by decide +kernel
theorem dX3_init_4 : decode cX3_init 4 = .ok (.aload_n 0, 1) := by decide +kernel
theorem dX3_init_5 : decode cX3_init 5 = .ok (.bipush 16, 2) := by decide +kernel
theorem dX3_init_7 : decode cX3_init 7 = .ok (.anewarray 9, 3) := by decide +kernel
theorem dX3_init_10 : decode cX3_init 10 = .ok (.putfield 11, 3) := by decide +kernel
theorem dX3_init_13 : decode cX3_init 13 = .ok (.aload_n 0, 1) := by decide +kernel
theorem dX3_init_14 : decode cX3_init 14 = .ok (.sipush 4096, 3) := by decide +kernel
theorem dX3_init_17 : decode cX3_init 17 = .ok (.newarray .byte, 2) := by decide +kernel
theorem dX3_init_19 : decode cX3_init 19 = .ok (.putfield 15, 3) := by decide +kernel
theorem dX3_init_22 : decode cX3_init 22 = .ok (.iconst 0, 1) := by decide +kernel
theorem dX3_init_23 : decode cX3_init 23 = .ok (.istore_n 1, 1) := by decide +kernel
theorem dX3_init_24 : decode cX3_init 24 = .ok (.iload_n 1, 1) := by decide +kernel
theorem dX3_init_25 : decode cX3_init 25 = .ok (.bipush 16, 2) := by decide +kernel
theorem dX3_init_27 : decode cX3_init 27 = .ok (.if_icmp .ge 22, 3) := by decide +kernel
theorem dX3_init_30 : decode cX3_init 30 = .ok (.aload_n 0, 1) := by decide +kernel
theorem dX3_init_31 : decode cX3_init 31 = .ok (.getfield 11, 3) := by decide +kernel
theorem dX3_init_34 : decode cX3_init 34 = .ok (.iload_n 1, 1) := by decide +kernel
theorem dX3_init_35 : decode cX3_init 35 = .ok (.new 9, 3) := by decide +kernel
theorem dX3_init_38 : decode cX3_init 38 = .ok (.dup, 1) := by decide +kernel
theorem dX3_init_39 : decode cX3_init 39 = .ok (.invokespecial 19, 3) := by decide +kernel
theorem dX3_init_42 : decode cX3_init 42 = .ok (.aastore, 1) := by decide +kernel
theorem dX3_init_43 : decode cX3_init 43 = .ok (.iinc 1 1, 3) := by decide +kernel
theorem dX3_init_46 : decode cX3_init 46 = .ok (.goto (-22), 3) := by decide +kernel
theorem dX3_init_49 : decode cX3_init 49 = .ok (.return_, 1) := by decide +kernel
theorem dX3_add_0 : decode cX3_add 0 = .ok (.aload_n 0, 1) := by decide +kernel
theorem dX3_add_1 : decode cX3_add 1 = .ok (.aload_n 0, 1) := by decide +kernel
theorem dX3_add_2 : decode cX3_add 2 = .ok (.getfield 20, 3) := by decide +kernel
theorem dX3_add_5 : decode cX3_add 5 = .ok (.bipush 16, 2) := by decide +kernel
theorem dX3_add_7 : decode cX3_add 7 = .ok (.if_icmp .lt 7, 3) := by decide +kernel
theorem dX3_add_10 : decode cX3_add 10 = .ok (.iconst 1, 1) := by decide +kernel
theorem dX3_add_11 : decode cX3_add 11 = .ok (.goto 4, 3) := by decide +kernel
theorem dX3_add_14 : decode cX3_add 14 = .ok (.iconst 0, 1) := by decide +kernel
theorem dX3_add_15 : decode cX3_add 15 = .ok (.putfield 24, 3) := by decide +kernel
theorem dX3_add_18 : decode cX3_add 18 = .ok (.aload_n 0, 1) := by decide +kernel
theorem dX3_add_19 : decode cX3_add 19 = .ok (.getfield 24, 3) := by decide +kernel
theorem dX3_add_22 : decode cX3_add 22 = .ok (.ifCond .eq 4, 3) := by decide +kernel
theorem dX3_add_25 : decode cX3_add 25 = .ok (.return_, 1) := by decide +kernel
theorem dX3_add_26 : decode cX3_add 26 = .ok (.aload_n 0, 1) := by decide +kernel
theorem dX3_add_27 : decode cX3_add 27 = .ok (.getfield 11, 3) := by decide +kernel
theorem dX3_add_30 : decode cX3_add 30 = .ok (.aload_n 0, 1) := by decide +kernel
theorem dX3_add_31 : decode cX3_add 31 = .ok (.getfield 28, 3) := by decide +kernel
theorem dX3_add_34 : decode cX3_add 34 = .ok (.aload_n 0, 1) := by decide +kernel
theorem dX3_add_35 : decode cX3_add 35 = .ok (.getfield 20, 3) := by decide +kernel
theorem dX3_add_38 : decode cX3_add 38 = .ok (.iadd, 1) := by decide +kernel
theorem dX3_add_39 : decode cX3_add 39 = .ok (.bipush 16, 2) := by decide +kernel
theorem dX3_add_41 : decode cX3_add 41 = .ok (.irem, 1) := by decide +kernel
theorem dX3_add_42 : decode cX3_add 42 = .ok (.aaload, 1) := by decide +kernel
theorem dX3_add_43 : decode cX3_add 43 = .ok (.astore_n 2, 1) := by decide +kernel
theorem dX3_add_44 : decode cX3_add 44 = .ok (.aload_n 2, 1) := by decide +kernel
theorem dX3_add_45 : decode cX3_add 45 = .ok (.aload_n 1, 1) := by decide +kernel
theorem dX3_add_46 : decode cX3_add 46 = .ok (.getfield 31, 3) := by decide +kernel
theorem dX3_add_49 : decode cX3_add 49 = .ok (.putfield 36, 3) := by decide +kernel
theorem dX3_add_52 : decode cX3_add 52 = .ok (.aload_n 2, 1) := by decide +kernel
theorem dX3_add_53 : decode cX3_add 53 = .ok (.aload_n 1, 1) := by decide +kernel
theorem dX3_add_54 : decode cX3_add 54 = .ok (.getfield 37, 3) := by decide +kernel
theorem dX3_add_57 : decode cX3_add 57 = .ok (.putfield 40, 3) := by decide +kernel
theorem dX3_add_60 : decode cX3_add 60 = .ok (.aload_n 2, 1) := by decide +kernel
theorem dX3_add_61 : decode cX3_add 61 = .ok (.aload_n 1, 1) := by decide +kernel
theorem dX3_add_62 : decode cX3_add 62 = .ok (.getfield 41, 3) := by decide +kernel
theorem dX3_add_65 : decode cX3_add 65 = .ok (.putfield 44, 3) := by decide +kernel
theorem dX3_add_68 : decode cX3_add 68 = .ok (.aload_n 2, 1) := by decide +kernel
theorem dX3_add_69 : decode cX3_add 69 = .ok (.aload_n 1, 1) := by decide +kernel
theorem dX3_add_70 : decode cX3_add 70 = .ok (.getfield 45, 3) := by decide +kernel
theorem dX3_add_73 : decode cX3_add 73 = .ok (.putfield 48, 3) := by decide +kernel
theorem dX3_add_76 : decode cX3_add 76 = .ok (.aload_n 2, 1) := by decide +kernel
theorem dX3_add_77 : decode cX3_add 77 = .ok (.aload_n 1, 1) := by decide +kernel
theorem dX3_add_78 : decode cX3_add 78 = .ok (.getfield 49, 3) := by decide +kernel
theorem dX3_add_81 : decode cX3_add 81 = .ok (.putfield 52, 3) := by decide +kernel
theorem dX3_add_84 : decode cX3_add 84 = .ok (.aload_n 2, 1) := by decide +kernel
theorem dX3_add_85 : decode cX3_add 85 = .ok (.iconst 0, 1) := by decide +kernel
theorem dX3_add_86 : decode cX3_add 86 = .ok (.putfield 53, 3) := by decide +kernel
theorem dX3_add_89 : decode cX3_add 89 = .ok (.aload_n 2, 1) := by decide +kernel
theorem dX3_add_90 : decode cX3_add 90 = .ok (.aload_n 1, 1) := by decide +kernel
theorem dX3_add_91 : decode cX3_add 91 = .ok (.getfield 56, 3) := by decide +kernel
theorem dX3_add_94 : decode cX3_add 94 = .ok (.putfield 59, 3) := by decide +kernel
theorem dX3_add_97 : decode cX3_add 97 = .ok (.aload_n 0, 1) := by decide +kernel
theorem dX3_add_98 : decode cX3_add 98 = .ok (.dup, 1) := by decide +kernel
theorem dX3_add_99 : decode cX3_add 99 = .ok (.getfield 20, 3) := by decide +kernel
theorem dX3_add_102 : decode cX3_add 102 = .ok (.iconst 1, 1) := by decide +kernel
theorem dX3_add_103 : decode cX3_add 103 = .ok (.iadd, 1) := by decide +kernel
theorem dX3_add_104 : decode cX3_add 104 = .ok (.putfield 20, 3) := by decide +kernel
theorem dX3_add_107 : decode cX3_add 107 = .ok (.return_, 1) := by decide +kernel
theorem dX3_addByte_0 : decode cX3_addByte 0 = .ok (.aload_n 0, 1) := by decide +kernel
theorem dX3_addByte_1 : decode cX3_addByte 1 = .ok (.getfield 24, 3) := by decide +kernel
theorem dX3_addByte_4 : decode cX3_addByte 4 = .ok (.ifCond .ne 10, 3) := by decide +kernel
theorem dX3_addByte_7 : decode cX3_addByte 7 = .ok (.aload_n 0, 1) := by decide +kernel
theorem dX3_addByte_8 : decode cX3_addByte 8 = .ok (.getfield 20, 3) := by decide +kernel
theorem dX3_addByte_11 : decode cX3_addByte 11 = .ok (.ifCond .ne 4, 3) := by decide +kernel
theorem dX3_addByte_14 : decode cX3_addByte 14 = .ok (.return_, 1) := by decide +kernel
theorem dX3_addByte_15 : decode cX3_addByte 15 = .ok (.aload_n 0, 1) := by decide +kernel
theorem dX3_addByte_16 : decode cX3_addByte 16 = .ok (.getfield 11, 3) := by decide +kernel
theorem dX3_addByte_19 : decode cX3_addByte 19 = .ok (.aload_n 0, 1) := by decide +kernel
theorem dX3_addByte_20 : decode cX3_addByte 20 = .ok (.getfield 28, 3) := by decide +kernel
theorem dX3_addByte_23 : decode cX3_addByte 23 = .ok (.aload_n 0, 1) := by decide +kernel
theorem dX3_addByte_24 : decode cX3_addByte 24 = .ok (.getfield 20, 3) := by decide +kernel
theorem dX3_addByte_27 : decode cX3_addByte 27 = .ok (.iadd, 1) := by decide +kernel
theorem dX3_addByte_28 : decode cX3_addByte 28 = .ok (.iconst 1, 1) := by decide +kernel
theorem dX3_addByte_29 : decode cX3_addByte 29 = .ok (.isub, 1) := by decide +kernel
theorem dX3_addByte_30 : decode cX3_addByte 30 = .ok (.bipush 16, 2) := by decide +kernel
theorem dX3_addByte_32 : decode cX3_addByte 32 = .ok (.irem, 1) := by decide +kernel
theorem dX3_addByte_33 : decode cX3_addByte 33 = .ok (.aaload, 1) := by decide +kernel
theorem dX3_addByte_34 : decode cX3_addByte 34 = .ok (.astore_n 2, 1) := by decide +kernel
theorem dX3_addByte_35 : decode cX3_addByte 35 = .ok (.aload_n 2, 1) := by decide +kernel
theorem dX3_addByte_36 : decode cX3_addByte 36 = .ok (.dup, 1) := by decide +kernel
theorem dX3_addByte_37 : decode cX3_addByte 37 = .ok (.getfield 59, 3) := by decide +kernel
theorem dX3_addByte_40 : decode cX3_addByte 40 = .ok (.iconst 1, 1) := by decide +kernel
theorem dX3_addByte_41 : decode cX3_addByte 41 = .ok (.isub, 1) := by decide +kernel
theorem dX3_addByte_42 : decode cX3_addByte 42 = .ok (.putfield 59, 3) := by decide +kernel
theorem dX3_addByte_45 : decode cX3_addByte 45 = .ok (.aload_n 0, 1) := by decide +kernel
theorem dX3_addByte_46 : decode cX3_addByte 46 = .ok (.getfield 62, 3) := by decide +kernel
theorem dX3_addByte_49 : decode cX3_addByte 49 = .ok (.sipush 4096, 3) := by decide +kernel
theorem dX3_addByte_52 : decode cX3_addByte 52 = .ok (.if_icmp .ge 43, 3) := by decide +kernel
theorem dX3_addByte_55 : decode cX3_addByte 55 = .ok (.aload_n 0, 1) := by decide +kernel
theorem dX3_addByte_56 : decode cX3_addByte 56 = .ok (.getfield 15, 3) := by decide +kernel
theorem dX3_addByte_59 : decode cX3_addByte 59 = .ok (.aload_n 0, 1) := by decide +kernel
theorem dX3_addByte_60 : decode cX3_addByte 60 = .ok (.getfield 65, 3) := by decide +kernel
theorem dX3_addByte_63 : decode cX3_addByte 63 = .ok (.aload_n 0, 1) := by decide +kernel
theorem dX3_addByte_64 : decode cX3_addByte 64 = .ok (.getfield 62, 3) := by decide +kernel
theorem dX3_addByte_67 : decode cX3_addByte 67 = .ok (.iadd, 1) := by decide +kernel
theorem dX3_addByte_68 : decode cX3_addByte 68 = .ok (.sipush 4096, 3) := by decide +kernel
theorem dX3_addByte_71 : decode cX3_addByte 71 = .ok (.irem, 1) := by decide +kernel
theorem dX3_addByte_72 : decode cX3_addByte 72 = .ok (.iload_n 1, 1) := by decide +kernel
theorem dX3_addByte_73 : decode cX3_addByte 73 = .ok (.i2b, 1) := by decide +kernel
theorem dX3_addByte_74 : decode cX3_addByte 74 = .ok (.bastore, 1) := by decide +kernel
theorem dX3_addByte_75 : decode cX3_addByte 75 = .ok (.aload_n 0, 1) := by decide +kernel
theorem dX3_addByte_76 : decode cX3_addByte 76 = .ok (.dup, 1) := by decide +kernel
theorem dX3_addByte_77 : decode cX3_addByte 77 = .ok (.getfield 62, 3) := by decide +kernel
theorem dX3_addByte_80 : decode cX3_addByte 80 = .ok (.iconst 1, 1) := by decide +kernel
theorem dX3_addByte_81 : decode cX3_addByte 81 = .ok (.iadd, 1) := by decide +kernel
theorem dX3_addByte_82 : decode cX3_addByte 82 = .ok (.putfield 62, 3) := by decide +kernel
theorem dX3_addByte_85 : decode cX3_addByte 85 = .ok (.aload_n 2, 1) := by decide +kernel
theorem dX3_addByte_86 : decode cX3_addByte 86 = .ok (.dup, 1) := by decide +kernel
theorem dX3_addByte_87 : decode cX3_addByte 87 = .ok (.getfield 53, 3) := by decide +kernel
theorem dX3_addByte_90 : decode cX3_addByte 90 = .ok (.iconst 1, 1) := by decide +kernel
theorem dX3_addByte_91 : decode cX3_addByte 91 = .ok (.iadd, 1) := by decide +kernel
theorem dX3_addByte_92 : decode cX3_addByte 92 = .ok (.putfield 53, 3) := by decide +kernel
theorem dX3_addByte_95 : decode cX3_addByte 95 = .ok (.return_, 1) := by decide +kernel
theorem dX3_firstPart_0 : decode cX3_firstPart 0 = .ok (.aload_n 0, 1) := by decide +kernel
theorem dX3_firstPart_1 : decode cX3_firstPart 1 = .ok (.getfield 11, 3) := by decide +kernel
theorem dX3_firstPart_4 : decode cX3_firstPart 4 = .ok (.aload_n 0, 1) := by decide +kernel
theorem dX3_firstPart_5 : decode cX3_firstPart 5 = .ok (.getfield 28, 3) := by decide +kernel
theorem dX3_firstPart_8 : decode cX3_firstPart 8 = .ok (.aaload, 1) := by decide +kernel
theorem dX3_firstPart_9 : decode cX3_firstPart 9 = .ok (.astore_n 2, 1) := by decide +kernel
theorem dX3_firstPart_10 : decode cX3_firstPart 10 = .ok (.iload_n 1, 1) := by decide +kernel
theorem dX3_firstPart_11 : decode cX3_firstPart 11 = .ok (.tableswitch 75 0 5 #[37, 42, 47, 52, 57, 70], 37) := by decide +kernel
theorem dX3_firstPart_48 : decode cX3_firstPart 48 = .ok (.aload_n 2, 1) := by decide +kernel
theorem dX3_firstPart_49 : decode cX3_firstPart 49 = .ok (.getfield 36, 3) := by decide +kernel
theorem dX3_firstPart_52 : decode cX3_firstPart 52 = .ok (.ireturn, 1) := by decide +kernel
theorem dX3_firstPart_53 : decode cX3_firstPart 53 = .ok (.aload_n 2, 1) := by decide +kernel
theorem dX3_firstPart_54 : decode cX3_firstPart 54 = .ok (.getfield 40, 3) := by decide +kernel
theorem dX3_firstPart_57 : decode cX3_firstPart 57 = .ok (.ireturn, 1) := by decide +kernel
theorem dX3_firstPart_58 : decode cX3_firstPart 58 = .ok (.aload_n 2, 1) := by decide +kernel
theorem dX3_firstPart_59 : decode cX3_firstPart 59 = .ok (.getfield 44, 3) := by decide +kernel
theorem dX3_firstPart_62 : decode cX3_firstPart 62 = .ok (.ireturn, 1) := by decide +kernel
theorem dX3_firstPart_63 : decode cX3_firstPart 63 = .ok (.aload_n 2, 1) := by decide +kernel
theorem dX3_firstPart_64 : decode cX3_firstPart 64 = .ok (.getfield 48, 3) := by decide +kernel
theorem dX3_firstPart_67 : decode cX3_firstPart 67 = .ok (.ireturn, 1) := by decide +kernel
theorem dX3_firstPart_68 : decode cX3_firstPart 68 = .ok (.aload_n 2, 1) := by decide +kernel
theorem dX3_firstPart_69 : decode cX3_firstPart 69 = .ok (.getfield 52, 3) := by decide +kernel
theorem dX3_firstPart_72 : decode cX3_firstPart 72 = .ok (.ifCond .eq 7, 3) := by decide +kernel
theorem dX3_firstPart_75 : decode cX3_firstPart 75 = .ok (.iconst 1, 1) := by decide +kernel
theorem dX3_firstPart_76 : decode cX3_firstPart 76 = .ok (.goto 4, 3) := by decide +kernel
theorem dX3_firstPart_79 : decode cX3_firstPart 79 = .ok (.iconst 0, 1) := by decide +kernel
theorem dX3_firstPart_80 : decode cX3_firstPart 80 = .ok (.ireturn, 1) := by decide +kernel
theorem dX3_firstPart_81 : decode cX3_firstPart 81 = .ok (.aload_n 2, 1) := by decide +kernel
theorem dX3_firstPart_82 : decode cX3_firstPart 82 = .ok (.getfield 53, 3) := by decide +kernel
theorem dX3_firstPart_85 : decode cX3_firstPart 85 = .ok (.ireturn, 1) := by decide +kernel
theorem dX3_firstPart_86 : decode cX3_firstPart 86 = .ok (.aload_n 2, 1) := by decide +kernel
theorem dX3_firstPart_87 : decode cX3_firstPart 87 = .ok (.getfield 59, 3) := by decide +kernel
theorem dX3_firstPart_90 : decode cX3_firstPart 90 = .ok (.ireturn, 1) := by decide +kernel
theorem dX3_firstEightBytes_0 : decode cX3_firstEightBytes 0 = .ok (.iload_n 1, 1) := by decide +kernel
theorem dX3_firstEightBytes_1 : decode cX3_firstEightBytes 1 = .ok (.ifCond .lt 10, 3) := by decide +kernel
theorem dX3_firstEightBytes_4 : decode cX3_firstEightBytes 4 = .ok (.iload_n 1, 1) := by decide +kernel
theorem dX3_firstEightBytes_5 : decode cX3_firstEightBytes 5 = .ok (.sipush 512, 3) := by decide +kernel
theorem dX3_firstEightBytes_8 : decode cX3_firstEightBytes 8 = .ok (.if_icmp .lt 5, 3) := by decide +kernel
theorem dX3_firstEightBytes_11 : decode cX3_firstEightBytes 11 = .ok (.lconst 0, 1) := by decide +kernel
theorem dX3_firstEightBytes_12 : decode cX3_firstEightBytes 12 = .ok (.lreturn, 1) := by decide +kernel
theorem dX3_firstEightBytes_13 : decode cX3_firstEightBytes 13 = .ok (.lconst 0, 1) := by decide +kernel
theorem dX3_firstEightBytes_14 : decode cX3_firstEightBytes 14 = .ok (.lstore_n 2, 1) := by decide +kernel
theorem dX3_firstEightBytes_15 : decode cX3_firstEightBytes 15 = .ok (.bipush 8, 2) := by decide +kernel
theorem dX3_firstEightBytes_17 : decode cX3_firstEightBytes 17 = .ok (.iload_n 1, 1) := by decide +kernel
theorem dX3_firstEightBytes_18 : decode cX3_firstEightBytes 18 = .ok (.imul, 1) := by decide +kernel
theorem dX3_firstEightBytes_19 : decode cX3_firstEightBytes 19 = .ok (.istore 4, 2) := by decide +kernel
theorem dX3_firstEightBytes_21 : decode cX3_firstEightBytes 21 = .ok (.iload 4, 2) := by decide +kernel
theorem dX3_firstEightBytes_23 : decode cX3_firstEightBytes 23 = .ok (.bipush 8, 2) := by decide +kernel
theorem dX3_firstEightBytes_25 : decode cX3_firstEightBytes 25 = .ok (.iload_n 1, 1) := by decide +kernel
theorem dX3_firstEightBytes_26 : decode cX3_firstEightBytes 26 = .ok (.imul, 1) := by decide +kernel
theorem dX3_firstEightBytes_27 : decode cX3_firstEightBytes 27 = .ok (.bipush 8, 2) := by decide +kernel
theorem dX3_firstEightBytes_29 : decode cX3_firstEightBytes 29 = .ok (.iadd, 1) := by decide +kernel
theorem dX3_firstEightBytes_30 : decode cX3_firstEightBytes 30 = .ok (.if_icmp .ge 61, 3) := by decide +kernel
theorem dX3_firstEightBytes_33 : decode cX3_firstEightBytes 33 = .ok (.iload 4, 2) := by decide +kernel
theorem dX3_firstEightBytes_35 : decode cX3_firstEightBytes 35 = .ok (.aload_n 0, 1) := by decide +kernel
theorem dX3_firstEightBytes_36 : decode cX3_firstEightBytes 36 = .ok (.getfield 11, 3) := by decide +kernel
theorem dX3_firstEightBytes_39 : decode cX3_firstEightBytes 39 = .ok (.aload_n 0, 1) := by decide +kernel
theorem dX3_firstEightBytes_40 : decode cX3_firstEightBytes 40 = .ok (.getfield 28, 3) := by decide +kernel
theorem dX3_firstEightBytes_43 : decode cX3_firstEightBytes 43 = .ok (.aaload, 1) := by decide +kernel
theorem dX3_firstEightBytes_44 : decode cX3_firstEightBytes 44 = .ok (.getfield 53, 3) := by decide +kernel
theorem dX3_firstEightBytes_47 : decode cX3_firstEightBytes 47 = .ok (.if_icmp .ge 26, 3) := by decide +kernel
theorem dX3_firstEightBytes_50 : decode cX3_firstEightBytes 50 = .ok (.aload_n 0, 1) := by decide +kernel
theorem dX3_firstEightBytes_51 : decode cX3_firstEightBytes 51 = .ok (.getfield 15, 3) := by decide +kernel
theorem dX3_firstEightBytes_54 : decode cX3_firstEightBytes 54 = .ok (.aload_n 0, 1) := by decide +kernel
theorem dX3_firstEightBytes_55 : decode cX3_firstEightBytes 55 = .ok (.getfield 65, 3) := by decide +kernel
theorem dX3_firstEightBytes_58 : decode cX3_firstEightBytes 58 = .ok (.iload 4, 2) := by decide +kernel
theorem dX3_firstEightBytes_60 : decode cX3_firstEightBytes 60 = .ok (.iadd, 1) := by decide +kernel
theorem dX3_firstEightBytes_61 : decode cX3_firstEightBytes 61 = .ok (.sipush 4096, 3) := by decide +kernel
theorem dX3_firstEightBytes_64 : decode cX3_firstEightBytes 64 = .ok (.irem, 1) := by decide +kernel
theorem dX3_firstEightBytes_65 : decode cX3_firstEightBytes 65 = .ok (.baload, 1) := by decide +kernel
theorem dX3_firstEightBytes_66 : decode cX3_firstEightBytes 66 = .ok (.sipush 255, 3) := by decide +kernel
theorem dX3_firstEightBytes_69 : decode cX3_firstEightBytes 69 = .ok (.iand, 1) := by decide +kernel
theorem dX3_firstEightBytes_70 : decode cX3_firstEightBytes 70 = .ok (.goto 4, 3) := by decide +kernel
theorem dX3_firstEightBytes_73 : decode cX3_firstEightBytes 73 = .ok (.iconst 0, 1) := by decide +kernel
theorem dX3_firstEightBytes_74 : decode cX3_firstEightBytes 74 = .ok (.istore 5, 2) := by decide +kernel
theorem dX3_firstEightBytes_76 : decode cX3_firstEightBytes 76 = .ok (.lload_n 2, 1) := by decide +kernel
theorem dX3_firstEightBytes_77 : decode cX3_firstEightBytes 77 = .ok (.bipush 8, 2) := by decide +kernel
theorem dX3_firstEightBytes_79 : decode cX3_firstEightBytes 79 = .ok (.lshl, 1) := by decide +kernel
theorem dX3_firstEightBytes_80 : decode cX3_firstEightBytes 80 = .ok (.iload 5, 2) := by decide +kernel
theorem dX3_firstEightBytes_82 : decode cX3_firstEightBytes 82 = .ok (.i2l, 1) := by decide +kernel
theorem dX3_firstEightBytes_83 : decode cX3_firstEightBytes 83 = .ok (.lor, 1) := by decide +kernel
theorem dX3_firstEightBytes_84 : decode cX3_firstEightBytes 84 = .ok (.lstore_n 2, 1) := by decide +kernel
theorem dX3_firstEightBytes_85 : decode cX3_firstEightBytes 85 = .ok (.iinc 4 1, 3) := by decide +kernel
theorem dX3_firstEightBytes_88 : decode cX3_firstEightBytes 88 = .ok (.goto (-67), 3) := by decide +kernel
theorem dX3_firstEightBytes_91 : decode cX3_firstEightBytes 91 = .ok (.lload_n 2, 1) := by decide +kernel
theorem dX3_firstEightBytes_92 : decode cX3_firstEightBytes 92 = .ok (.lreturn, 1) := by decide +kernel
theorem dX3_removeFirst_0 : decode cX3_removeFirst 0 = .ok (.aload_n 0, 1) := by decide +kernel
theorem dX3_removeFirst_1 : decode cX3_removeFirst 1 = .ok (.getfield 20, 3) := by decide +kernel
theorem dX3_removeFirst_4 : decode cX3_removeFirst 4 = .ok (.ifCond .eq 18, 3) := by decide +kernel
theorem dX3_removeFirst_7 : decode cX3_removeFirst 7 = .ok (.aload_n 0, 1) := by decide +kernel
theorem dX3_removeFirst_8 : decode cX3_removeFirst 8 = .ok (.getfield 11, 3) := by decide +kernel
theorem dX3_removeFirst_11 : decode cX3_removeFirst 11 = .ok (.aload_n 0, 1) := by decide +kernel
theorem dX3_removeFirst_12 : decode cX3_removeFirst 12 = .ok (.getfield 28, 3) := by decide +kernel
theorem dX3_removeFirst_15 : decode cX3_removeFirst 15 = .ok (.aaload, 1) := by decide +kernel
theorem dX3_removeFirst_16 : decode cX3_removeFirst 16 = .ok (.getfield 59, 3) := by decide +kernel
theorem dX3_removeFirst_19 : decode cX3_removeFirst 19 = .ok (.ifCond .le 5, 3) := by decide +kernel
theorem dX3_removeFirst_22 : decode cX3_removeFirst 22 = .ok (.iconst 0, 1) := by decide +kernel
theorem dX3_removeFirst_23 : decode cX3_removeFirst 23 = .ok (.ireturn, 1) := by decide +kernel
theorem dX3_removeFirst_24 : decode cX3_removeFirst 24 = .ok (.aload_n 0, 1) := by decide +kernel
theorem dX3_removeFirst_25 : decode cX3_removeFirst 25 = .ok (.aload_n 0, 1) := by decide +kernel
theorem dX3_removeFirst_26 : decode cX3_removeFirst 26 = .ok (.getfield 65, 3) := by decide +kernel
theorem dX3_removeFirst_29 : decode cX3_removeFirst 29 = .ok (.aload_n 0, 1) := by decide +kernel
theorem dX3_removeFirst_30 : decode cX3_removeFirst 30 = .ok (.getfield 11, 3) := by decide +kernel
theorem dX3_removeFirst_33 : decode cX3_removeFirst 33 = .ok (.aload_n 0, 1) := by decide +kernel
theorem dX3_removeFirst_34 : decode cX3_removeFirst 34 = .ok (.getfield 28, 3) := by decide +kernel
theorem dX3_removeFirst_37 : decode cX3_removeFirst 37 = .ok (.aaload, 1) := by decide +kernel
theorem dX3_removeFirst_38 : decode cX3_removeFirst 38 = .ok (.getfield 53, 3) := by decide +kernel
theorem dX3_removeFirst_41 : decode cX3_removeFirst 41 = .ok (.iadd, 1) := by decide +kernel
theorem dX3_removeFirst_42 : decode cX3_removeFirst 42 = .ok (.sipush 4096, 3) := by decide +kernel
theorem dX3_removeFirst_45 : decode cX3_removeFirst 45 = .ok (.irem, 1) := by decide +kernel
theorem dX3_removeFirst_46 : decode cX3_removeFirst 46 = .ok (.putfield 65, 3) := by decide +kernel
theorem dX3_removeFirst_49 : decode cX3_removeFirst 49 = .ok (.aload_n 0, 1) := by decide +kernel
theorem dX3_removeFirst_50 : decode cX3_removeFirst 50 = .ok (.dup, 1) := by decide +kernel
theorem dX3_removeFirst_51 : decode cX3_removeFirst 51 = .ok (.getfield 62, 3) := by decide +kernel
theorem dX3_removeFirst_54 : decode cX3_removeFirst 54 = .ok (.aload_n 0, 1) := by decide +kernel
theorem dX3_removeFirst_55 : decode cX3_removeFirst 55 = .ok (.getfield 11, 3) := by decide +kernel
theorem dX3_removeFirst_58 : decode cX3_removeFirst 58 = .ok (.aload_n 0, 1) := by decide +kernel
theorem dX3_removeFirst_59 : decode cX3_removeFirst 59 = .ok (.getfield 28, 3) := by decide +kernel
theorem dX3_removeFirst_62 : decode cX3_removeFirst 62 = .ok (.aaload, 1) := by decide +kernel
theorem dX3_removeFirst_63 : decode cX3_removeFirst 63 = .ok (.getfield 53, 3) := by decide +kernel
theorem dX3_removeFirst_66 : decode cX3_removeFirst 66 = .ok (.isub, 1) := by decide +kernel
theorem dX3_removeFirst_67 : decode cX3_removeFirst 67 = .ok (.putfield 62, 3) := by decide +kernel
theorem dX3_removeFirst_70 : decode cX3_removeFirst 70 = .ok (.aload_n 0, 1) := by decide +kernel
theorem dX3_removeFirst_71 : decode cX3_removeFirst 71 = .ok (.aload_n 0, 1) := by decide +kernel
theorem dX3_removeFirst_72 : decode cX3_removeFirst 72 = .ok (.getfield 28, 3) := by decide +kernel
theorem dX3_removeFirst_75 : decode cX3_removeFirst 75 = .ok (.iconst 1, 1) := by decide +kernel
theorem dX3_removeFirst_76 : decode cX3_removeFirst 76 = .ok (.iadd, 1) := by decide +kernel
theorem dX3_removeFirst_77 : decode cX3_removeFirst 77 = .ok (.bipush 16, 2) := by decide +kernel
theorem dX3_removeFirst_79 : decode cX3_removeFirst 79 = .ok (.irem, 1) := by decide +kernel
theorem dX3_removeFirst_80 : decode cX3_removeFirst 80 = .ok (.putfield 28, 3) := by decide +kernel
theorem dX3_removeFirst_83 : decode cX3_removeFirst 83 = .ok (.aload_n 0, 1) := by decide +kernel
theorem dX3_removeFirst_84 : decode cX3_removeFirst 84 = .ok (.dup, 1) := by decide +kernel
theorem dX3_removeFirst_85 : decode cX3_removeFirst 85 = .ok (.getfield 20, 3) := by decide +kernel
theorem dX3_removeFirst_88 : decode cX3_removeFirst 88 = .ok (.iconst 1, 1) := by decide +kernel
theorem dX3_removeFirst_89 : decode cX3_removeFirst 89 = .ok (.isub, 1) := by decide +kernel
theorem dX3_removeFirst_90 : decode cX3_removeFirst 90 = .ok (.putfield 20, 3) := by decide +kernel
theorem dX3_removeFirst_93 : decode cX3_removeFirst 93 = .ok (.iconst 1, 1) := by decide +kernel
theorem dX3_removeFirst_94 : decode cX3_removeFirst 94 = .ok (.ireturn, 1) := by decide +kernel
theorem dX4_init_0 : decode cX4_init 0 = .ok (.aload_n 0, 1) := by decide +kernel
theorem dX4_init_1 : decode cX4_init 1 = .ok (.invokespecial 1, 3) := by decide +kernel
theorem dX4_init_4 : decode cX4_init 4 = .ok (.return_, 1) := by decide +kernel
theorem dX4_isSize_0 : decode cX4_isSize 0 = .ok (.lload_n 0, 1) := by decide +kernel
theorem dX4_isSize_1 : decode cX4_isSize 1 = .ok (.lconst 1, 1) := by decide +kernel
theorem dX4_isSize_2 : decode cX4_isSize 2 = .ok (.lcmp, 1) := by decide +kernel
theorem dX4_isSize_3 : decode cX4_isSize 3 = .ok (.ifCond .eq 35, 3) := by decide +kernel
theorem dX4_isSize_6 : decode cX4_isSize 6 = .ok (.lload_n 0, 1) := by decide +kernel
theorem dX4_isSize_7 : decode cX4_isSize 7 = .ok (.ldc2_w 7, 3) := by decide +kernel
theorem dX4_isSize_10 : decode cX4_isSize 10 = .ok (.lcmp, 1) := by decide +kernel
theorem dX4_isSize_11 : decode cX4_isSize 11 = .ok (.ifCond .eq 27, 3) := by decide +kernel
theorem dX4_isSize_14 : decode cX4_isSize 14 = .ok (.lload_n 0, 1) := by decide +kernel
theorem dX4_isSize_15 : decode cX4_isSize 15 = .ok (.ldc2_w 9, 3) := by decide +kernel
theorem dX4_isSize_18 : decode cX4_isSize 18 = .ok (.lcmp, 1) := by decide +kernel
theorem dX4_isSize_19 : decode cX4_isSize 19 = .ok (.ifCond .eq 19, 3) := by decide +kernel
theorem dX4_isSize_22 : decode cX4_isSize 22 = .ok (.lload_n 0, 1) := by decide +kernel
theorem dX4_isSize_23 : decode cX4_isSize 23 = .ok (.ldc2_w 11, 3) := by decide +kernel
theorem dX4_isSize_26 : decode cX4_isSize 26 = .ok (.lcmp, 1) := by decide +kernel
theorem dX4_isSize_27 : decode cX4_isSize 27 = .ok (.ifCond .eq 11, 3) := by decide +kernel
theorem dX4_isSize_30 : decode cX4_isSize 30 = .ok (.lload_n 0, 1) := by decide +kernel
theorem dX4_isSize_31 : decode cX4_isSize 31 = .ok (.ldc2_w 13, 3) := by decide +kernel
theorem dX4_isSize_34 : decode cX4_isSize 34 = .ok (.lcmp, 1) := by decide +kernel
theorem dX4_isSize_35 : decode cX4_isSize 35 = .ok (.ifCond .ne 7, 3) := by decide +kernel
theorem dX4_isSize_38 : decode cX4_isSize 38 = .ok (.iconst 1, 1) := by decide +kernel
theorem dX4_isSize_39 : decode cX4_isSize 39 = .ok (.goto 4, 3) := by decide +kernel
theorem dX4_isSize_42 : decode cX4_isSize 42 = .ok (.iconst 0, 1) := by decide +kernel
theorem dX4_isSize_43 : decode cX4_isSize 43 = .ok (.ireturn, 1) := by decide +kernel
theorem dX4_choose_0 : decode cX4_choose 0 = .ok (.aload_n 0, 1) := by decide +kernel
theorem dX4_choose_1 : decode cX4_choose 1 = .ok (.iload_n 1, 1) := by decide +kernel
theorem dX4_choose_2 : decode cX4_choose 2 = .ok (.putfield 15, 3) := by decide +kernel
theorem dX4_choose_5 : decode cX4_choose 5 = .ok (.aload_n 0, 1) := by decide +kernel
theorem dX4_choose_6 : decode cX4_choose 6 = .ok (.iload_n 2, 1) := by decide +kernel
theorem dX4_choose_7 : decode cX4_choose 7 = .ok (.putfield 21, 3) := by decide +kernel
theorem dX4_choose_10 : decode cX4_choose 10 = .ok (.aload_n 0, 1) := by decide +kernel
theorem dX4_choose_11 : decode cX4_choose 11 = .ok (.getfield 21, 3) := by decide +kernel
theorem dX4_choose_14 : decode cX4_choose 14 = .ok (.iconst 1, 1) := by decide +kernel
theorem dX4_choose_15 : decode cX4_choose 15 = .ok (.if_icmp .eq 11, 3) := by decide +kernel
theorem dX4_choose_18 : decode cX4_choose 18 = .ok (.aload_n 0, 1) := by decide +kernel
theorem dX4_choose_19 : decode cX4_choose 19 = .ok (.getfield 21, 3) := by decide +kernel
theorem dX4_choose_22 : decode cX4_choose 22 = .ok (.iconst 3, 1) := by decide +kernel
theorem dX4_choose_23 : decode cX4_choose 23 = .ok (.if_icmp .ne 7, 3) := by decide +kernel
theorem dX4_choose_26 : decode cX4_choose 26 = .ok (.iconst 1, 1) := by decide +kernel
theorem dX4_choose_27 : decode cX4_choose 27 = .ok (.goto 4, 3) := by decide +kernel
theorem dX4_choose_30 : decode cX4_choose 30 = .ok (.iconst 0, 1) := by decide +kernel
theorem dX4_choose_31 : decode cX4_choose 31 = .ok (.istore_n 3, 1) := by decide +kernel
theorem dX4_choose_32 : decode cX4_choose 32 = .ok (.aload_n 0, 1) := by decide +kernel
theorem dX4_choose_33 : decode cX4_choose 33 = .ok (.iload_n 3, 1) := by decide +kernel
theorem dX4_choose_34 : decode cX4_choose 34 = .ok (.ifCond .eq 14, 3) := by decide +kernel
theorem dX4_choose_37 : decode cX4_choose 37 = .ok (.aload_n 0, 1) := by decide +kernel
theorem dX4_choose_38 : decode cX4_choose 38 = .ok (.invokevirtual 24, 3) := by decide +kernel
theorem dX4_choose_41 : decode cX4_choose 41 = .ok (.sipush 2880, 3) := by decide +kernel
theorem dX4_choose_44 : decode cX4_choose 44 = .ok (.isub, 1) := by decide +kernel
theorem dX4_choose_45 : decode cX4_choose 45 = .ok (.goto 11, 3) := by decide +kernel
theorem dX4_choose_48 : decode cX4_choose 48 = .ok (.aload_n 0, 1) := by decide +kernel
theorem dX4_choose_49 : decode cX4_choose 49 = .ok (.invokevirtual 28, 3) := by decide +kernel
theorem dX4_choose_52 : decode cX4_choose 52 = .ok (.sipush 3600, 3) := by decide +kernel
theorem dX4_choose_55 : decode cX4_choose 55 = .ok (.isub, 1) := by decide +kernel
theorem dX4_choose_56 : decode cX4_choose 56 = .ok (.putfield 31, 3) := by decide +kernel
theorem dX4_choose_59 : decode cX4_choose 59 = .ok (.aload_n 0, 1) := by decide +kernel
theorem dX4_choose_60 : decode cX4_choose 60 = .ok (.iload_n 3, 1) := by decide +kernel
theorem dX4_choose_61 : decode cX4_choose 61 = .ok (.ifCond .eq 10, 3) := by decide +kernel
theorem dX4_choose_64 : decode cX4_choose 64 = .ok (.aload_n 0, 1) := by decide +kernel
theorem dX4_choose_65 : decode cX4_choose 65 = .ok (.invokevirtual 28, 3) := by decide +kernel
theorem dX4_choose_68 : decode cX4_choose 68 = .ok (.goto 7, 3) := by decide +kernel
theorem dX4_choose_71 : decode cX4_choose 71 = .ok (.aload_n 0, 1) := by decide +kernel
theorem dX4_choose_72 : decode cX4_choose 72 = .ok (.invokevirtual 24, 3) := by decide +kernel
theorem dX4_choose_75 : decode cX4_choose 75 = .ok (.putfield 34, 3) := by decide +kernel
theorem dX4_choose_78 : decode cX4_choose 78 = .ok (.return_, 1) := by decide +kernel
theorem dX4_shortSide_0 : decode cX4_shortSide 0 = .ok (.aload_n 0, 1) := by decide +kernel
theorem dX4_shortSide_1 : decode cX4_shortSide 1 = .ok (.getfield 15, 3) := by decide +kernel
theorem dX4_shortSide_4 : decode cX4_shortSide 4 = .ok (.lookupswitch 45 #[(1, 36), (6, 39), (26, 42)], 36) := by decide +kernel
theorem dX4_shortSide_40 : decode cX4_shortSide 40 = .ok (.ldc 37, 2) := by decide +kernel
theorem dX4_shortSide_42 : decode cX4_shortSide 42 = .ok (.ireturn, 1) := by decide +kernel
theorem dX4_shortSide_43 : decode cX4_shortSide 43 = .ok (.ldc 38, 2) := by decide +kernel
theorem dX4_shortSide_45 : decode cX4_shortSide 45 = .ok (.ireturn, 1) := by decide +kernel
theorem dX4_shortSide_46 : decode cX4_shortSide 46 = .ok (.ldc 39, 2) := by decide +kernel
theorem dX4_shortSide_48 : decode cX4_shortSide 48 = .ok (.ireturn, 1) := by decide +kernel
theorem dX4_shortSide_49 : decode cX4_shortSide 49 = .ok (.ldc 40, 2) := by decide +kernel
theorem dX4_shortSide_51 : decode cX4_shortSide 51 = .ok (.ireturn, 1) := by decide +kernel
theorem dX4_longSide_0 : decode cX4_longSide 0 = .ok (.aload_n 0, 1) := by decide +kernel
theorem dX4_longSide_1 : decode cX4_longSide 1 = .ok (.getfield 15, 3) := by decide +kernel
theorem dX4_longSide_4 : decode cX4_longSide 4 = .ok (.lookupswitch 56 #[(1, 44), (3, 47), (6, 50), (26, 53)], 44) := by decide +kernel
theorem dX4_longSide_48 : decode cX4_longSide 48 = .ok (.ldc 41, 2) := by decide +kernel
theorem dX4_longSide_50 : decode cX4_longSide 50 = .ok (.ireturn, 1) := by decide +kernel
theorem dX4_longSide_51 : decode cX4_longSide 51 = .ok (.ldc 42, 2) := by decide +kernel
theorem dX4_longSide_53 : decode cX4_longSide 53 = .ok (.ireturn, 1) := by decide +kernel
theorem dX4_longSide_54 : decode cX4_longSide 54 = .ok (.ldc 43, 2) := by decide +kernel
theorem dX4_longSide_56 : decode cX4_longSide 56 = .ok (.ireturn, 1) := by decide +kernel
theorem dX4_longSide_57 : decode cX4_longSide 57 = .ok (.ldc 44, 2) := by decide +kernel
theorem dX4_longSide_59 : decode cX4_longSide 59 = .ok (.ireturn, 1) := by decide +kernel
theorem dX4_longSide_60 : decode cX4_longSide 60 = .ok (.ldc 38, 2) := by decide +kernel
theorem dX4_longSide_62 : decode cX4_longSide 62 = .ok (.ireturn, 1) := by decide +kernel
theorem dX5_init_0 : decode cX5_init 0 = .ok (.aload_n 0, 1) := by decide +kernel
theorem dX5_init_1 : decode cX5_init 1 = .ok (.invokespecial 3, 3) := by decide +kernel
theorem dX5_init_4 : decode cX5_init 4 = .ok (.return_, 1) := by decide +kernel
theorem dX5_isUnderWay_0 : decode cX5_isUnderWay 0 = .ok (.aload_n 0, 1) := by decide +kernel
theorem dX5_isUnderWay_1 : decode cX5_isUnderWay 1 = .ok (.getfield 9, 3) := by decide +kernel
theorem dX5_isUnderWay_4 : decode cX5_isUnderWay 4 = .ok (.ifCond .ne 10, 3) := by decide +kernel
theorem dX5_isUnderWay_7 : decode cX5_isUnderWay 7 = .ok (.aload_n 0, 1) := by decide +kernel
theorem dX5_isUnderWay_8 : decode cX5_isUnderWay 8 = .ok (.getfield 15, 3) := by decide +kernel
theorem dX5_isUnderWay_11 : decode cX5_isUnderWay 11 = .ok (.ifCond .le 7, 3) := by decide +kernel
theorem dX5_isUnderWay_14 : decode cX5_isUnderWay 14 = .ok (.iconst 1, 1) := by decide +kernel
theorem dX5_isUnderWay_15 : decode cX5_isUnderWay 15 = .ok (.goto 4, 3) := by decide +kernel
theorem dX5_isUnderWay_18 : decode cX5_isUnderWay 18 = .ok (.iconst 0, 1) := by decide +kernel
theorem dX5_isUnderWay_19 : decode cX5_isUnderWay 19 = .ok (.ireturn, 1) := by decide +kernel
theorem dX5_hasText_0 : decode cX5_hasText 0 = .ok (.aload_n 0, 1) := by decide +kernel
theorem dX5_hasText_1 : decode cX5_hasText 1 = .ok (.getfield 18, 3) := by decide +kernel
theorem dX5_hasText_4 : decode cX5_hasText 4 = .ok (.bipush 38, 2) := by decide +kernel
theorem dX5_hasText_6 : decode cX5_hasText 6 = .ok (.if_icmp .ne 25, 3) := by decide +kernel
theorem dX5_hasText_9 : decode cX5_hasText 9 = .ok (.aload_n 0, 1) := by decide +kernel
theorem dX5_hasText_10 : decode cX5_hasText 10 = .ok (.getfield 21, 3) := by decide +kernel
theorem dX5_hasText_13 : decode cX5_hasText 13 = .ok (.bipush 112, 2) := by decide +kernel
theorem dX5_hasText_15 : decode cX5_hasText 15 = .ok (.if_icmp .ne 16, 3) := by decide +kernel
theorem dX5_hasText_18 : decode cX5_hasText 18 = .ok (.aload_n 0, 1) := by decide +kernel
theorem dX5_hasText_19 : decode cX5_hasText 19 = .ok (.getfield 24, 3) := by decide +kernel
theorem dX5_hasText_22 : decode cX5_hasText 22 = .ok (.bipush 88, 2) := by decide +kernel
theorem dX5_hasText_24 : decode cX5_hasText 24 = .ok (.if_icmp .ne 7, 3) := by decide +kernel
theorem dX5_hasText_27 : decode cX5_hasText 27 = .ok (.iconst 1, 1) := by decide +kernel
theorem dX5_hasText_28 : decode cX5_hasText 28 = .ok (.goto 4, 3) := by decide +kernel
theorem dX5_hasText_31 : decode cX5_hasText 31 = .ok (.iconst 0, 1) := by decide +kernel
theorem dX5_hasText_32 : decode cX5_hasText 32 = .ok (.ireturn, 1) := by decide +kernel
theorem dX5_accept_0 : decode cX5_accept 0 = .ok (.aload_n 0, 1) := by decide +kernel
theorem dX5_accept_1 : decode cX5_accept 1 = .ok (.getfield 15, 3) := by decide +kernel
theorem dX5_accept_4 : decode cX5_accept 4 = .ok (.ifCond .le 26, 3) := by decide +kernel
theorem dX5_accept_7 : decode cX5_accept 7 = .ok (.aload_n 0, 1) := by decide +kernel
theorem dX5_accept_8 : decode cX5_accept 8 = .ok (.dup, 1) := by decide +kernel
theorem dX5_accept_9 : decode cX5_accept 9 = .ok (.getfield 15, 3) := by decide +kernel
theorem dX5_accept_12 : decode cX5_accept 12 = .ok (.iconst 1, 1) := by decide +kernel
theorem dX5_accept_13 : decode cX5_accept 13 = .ok (.isub, 1) := by decide +kernel
theorem dX5_accept_14 : decode cX5_accept 14 = .ok (.putfield 15, 3) := by decide +kernel
theorem dX5_accept_17 : decode cX5_accept 17 = .ok (.aload_n 0, 1) := by decide +kernel
theorem dX5_accept_18 : decode cX5_accept 18 = .ok (.invokevirtual 27, 3) := by decide +kernel
theorem dX5_accept_21 : decode cX5_accept 21 = .ok (.ifCond .eq 7, 3) := by decide +kernel
theorem dX5_accept_24 : decode cX5_accept 24 = .ok (.iconst 1, 1) := by decide +kernel
theorem dX5_accept_25 : decode cX5_accept 25 = .ok (.goto 4, 3) := by decide +kernel
theorem dX5_accept_28 : decode cX5_accept 28 = .ok (.iconst 5, 1) := by decide +kernel
theorem dX5_accept_29 : decode cX5_accept 29 = .ok (.ireturn, 1) := by decide +kernel
theorem dX5_accept_30 : decode cX5_accept 30 = .ok (.iload_n 1, 1) := by decide +kernel
theorem dX5_accept_31 : decode cX5_accept 31 = .ok (.bipush 27, 2) := by decide +kernel
theorem dX5_accept_33 : decode cX5_accept 33 = .ok (.if_icmp .ne 10, 3) := by decide +kernel
theorem dX5_accept_36 : decode cX5_accept 36 = .ok (.aload_n 0, 1) := by decide +kernel
theorem dX5_accept_37 : decode cX5_accept 37 = .ok (.iconst 1, 1) := by decide +kernel
theorem dX5_accept_38 : decode cX5_accept 38 = .ok (.putfield 9, 3) := by decide +kernel
theorem dX5_accept_41 : decode cX5_accept 41 = .ok (.iconst 0, 1) := by decide +kernel
theorem dX5_accept_42 : decode cX5_accept 42 = .ok (.ireturn, 1) := by decide +kernel
theorem dX5_accept_43 : decode cX5_accept 43 = .ok (.aload_n 0, 1) := by decide +kernel
theorem dX5_accept_44 : decode cX5_accept 44 = .ok (.getfield 9, 3) := by decide +kernel
theorem dX5_accept_47 : decode cX5_accept 47 = .ok (.tableswitch 43 1 3 #[25, 31, 37], 25) := by decide +kernel
theorem dX5_accept_72 : decode cX5_accept 72 = .ok (.aload_n 0, 1) := by decide +kernel
theorem dX5_accept_73 : decode cX5_accept 73 = .ok (.iload_n 1, 1) := by decide +kernel
theorem dX5_accept_74 : decode cX5_accept 74 = .ok (.invokevirtual 31, 3) := by decide +kernel
theorem dX5_accept_77 : decode cX5_accept 77 = .ok (.ireturn, 1) := by decide +kernel
theorem dX5_accept_78 : decode cX5_accept 78 = .ok (.aload_n 0, 1) := by decide +kernel
theorem dX5_accept_79 : decode cX5_accept 79 = .ok (.iload_n 1, 1) := by decide +kernel
theorem dX5_accept_80 : decode cX5_accept 80 = .ok (.invokevirtual 35, 3) := by decide +kernel
theorem dX5_accept_83 : decode cX5_accept 83 = .ok (.ireturn, 1) := by decide +kernel
theorem dX5_accept_84 : decode cX5_accept 84 = .ok (.aload_n 0, 1) := by decide +kernel
theorem dX5_accept_85 : decode cX5_accept 85 = .ok (.iload_n 1, 1) := by decide +kernel
theorem dX5_accept_86 : decode cX5_accept 86 = .ok (.invokevirtual 38, 3) := by decide +kernel
theorem dX5_accept_89 : decode cX5_accept 89 = .ok (.ireturn, 1) := by decide +kernel
theorem dX5_accept_90 : decode cX5_accept 90 = .ok (.iload_n 1, 1) := by decide +kernel
theorem dX5_accept_91 : decode cX5_accept 91 = .ok (.bipush 32, 2) := by decide +kernel
theorem dX5_accept_93 : decode cX5_accept 93 = .ok (.if_icmp .lt 7, 3) := by decide +kernel
theorem dX5_accept_96 : decode cX5_accept 96 = .ok (.iconst 1, 1) := by decide +kernel
theorem dX5_accept_97 : decode cX5_accept 97 = .ok (.goto 4, 3) := by decide +kernel
theorem dX5_accept_100 : decode cX5_accept 100 = .ok (.iconst 2, 1) := by decide +kernel
theorem dX5_accept_101 : decode cX5_accept 101 = .ok (.ireturn, 1) := by decide +kernel
theorem dX5_behindEsc_0 : decode cX5_behindEsc 0 = .ok (.iload_n 1, 1) := by decide +kernel
theorem dX5_behindEsc_1 : decode cX5_behindEsc 1 = .ok (.bipush 48, 2) := by decide +kernel
theorem dX5_behindEsc_3 : decode cX5_behindEsc 3 = .ok (.if_icmp .lt 16, 3) := by decide +kernel
theorem dX5_behindEsc_6 : decode cX5_behindEsc 6 = .ok (.iload_n 1, 1) := by decide +kernel
theorem dX5_behindEsc_7 : decode cX5_behindEsc 7 = .ok (.bipush 126, 2) := by decide +kernel
theorem dX5_behindEsc_9 : decode cX5_behindEsc 9 = .ok (.if_icmp .gt 10, 3) := by decide +kernel
theorem dX5_behindEsc_12 : decode cX5_behindEsc 12 = .ok (.aload_n 0, 1) := by decide +kernel
theorem dX5_behindEsc_13 : decode cX5_behindEsc 13 = .ok (.iconst 0, 1) := by decide +kernel
theorem dX5_behindEsc_14 : decode cX5_behindEsc 14 = .ok (.putfield 9, 3) := by decide +kernel
theorem dX5_behindEsc_17 : decode cX5_behindEsc 17 = .ok (.iconst 3, 1) := by decide +kernel
theorem dX5_behindEsc_18 : decode cX5_behindEsc 18 = .ok (.ireturn, 1) := by decide +kernel
theorem dX5_behindEsc_19 : decode cX5_behindEsc 19 = .ok (.iload_n 1, 1) := by decide +kernel
theorem dX5_behindEsc_20 : decode cX5_behindEsc 20 = .ok (.bipush 33, 2) := by decide +kernel
theorem dX5_behindEsc_22 : decode cX5_behindEsc 22 = .ok (.if_icmp .lt 26, 3) := by decide +kernel
theorem dX5_behindEsc_25 : decode cX5_behindEsc 25 = .ok (.iload_n 1, 1) := by decide +kernel
theorem dX5_behindEsc_26 : decode cX5_behindEsc 26 = .ok (.bipush 47, 2) := by decide +kernel
theorem dX5_behindEsc_28 : decode cX5_behindEsc 28 = .ok (.if_icmp .gt 20, 3) := by decide +kernel
theorem dX5_behindEsc_31 : decode cX5_behindEsc 31 = .ok (.aload_n 0, 1) := by decide +kernel
theorem dX5_behindEsc_32 : decode cX5_behindEsc 32 = .ok (.iload_n 1, 1) := by decide +kernel
theorem dX5_behindEsc_33 : decode cX5_behindEsc 33 = .ok (.putfield 18, 3) := by decide +kernel
theorem dX5_behindEsc_36 : decode cX5_behindEsc 36 = .ok (.aload_n 0, 1) := by decide +kernel
theorem dX5_behindEsc_37 : decode cX5_behindEsc 37 = .ok (.iconst 0, 1) := by decide +kernel
theorem dX5_behindEsc_38 : decode cX5_behindEsc 38 = .ok (.putfield 21, 3) := by decide +kernel
theorem dX5_behindEsc_41 : decode cX5_behindEsc 41 = .ok (.aload_n 0, 1) := by decide +kernel
theorem dX5_behindEsc_42 : decode cX5_behindEsc 42 = .ok (.iconst 2, 1) := by decide +kernel
theorem dX5_behindEsc_43 : decode cX5_behindEsc 43 = .ok (.putfield 9, 3) := by decide +kernel
theorem dX5_behindEsc_46 : decode cX5_behindEsc 46 = .ok (.iconst 0, 1) := by decide +kernel
theorem dX5_behindEsc_47 : decode cX5_behindEsc 47 = .ok (.ireturn, 1) := by decide +kernel
theorem dX5_behindEsc_48 : decode cX5_behindEsc 48 = .ok (.aload_n 0, 1) := by decide +kernel
theorem dX5_behindEsc_49 : decode cX5_behindEsc 49 = .ok (.iconst 0, 1) := by decide +kernel
theorem dX5_behindEsc_50 : decode cX5_behindEsc 50 = .ok (.putfield 9, 3) := by decide +kernel
theorem dX5_behindEsc_53 : decode cX5_behindEsc 53 = .ok (.iconst 0, 1) := by decide +kernel
theorem dX5_behindEsc_54 : decode cX5_behindEsc 54 = .ok (.ireturn, 1) := by decide +kernel
theorem dX5_behindFamily_0 : decode cX5_behindFamily 0 = .ok (.aload_n 0, 1) := by decide +kernel
theorem dX5_behindFamily_1 : decode cX5_behindFamily 1 = .ok (.iconst 3, 1) := by decide +kernel
theorem dX5_behindFamily_2 : decode cX5_behindFamily 2 = .ok (.putfield 9, 3) := by decide +kernel
theorem dX5_behindFamily_5 : decode cX5_behindFamily 5 = .ok (.aload_n 0, 1) := by decide +kernel
theorem dX5_behindFamily_6 : decode cX5_behindFamily 6 = .ok (.invokevirtual 41, 3) := by decide +kernel
theorem dX5_behindFamily_9 : decode cX5_behindFamily 9 = .ok (.iload_n 1, 1) := by decide +kernel
theorem dX5_behindFamily_10 : decode cX5_behindFamily 10 = .ok (.bipush 96, 2) := by decide +kernel
theorem dX5_behindFamily_12 : decode cX5_behindFamily 12 = .ok (.if_icmp .lt 16, 3) := by decide +kernel
theorem dX5_behindFamily_15 : decode cX5_behindFamily 15 = .ok (.iload_n 1, 1) := by decide +kernel
theorem dX5_behindFamily_16 : decode cX5_behindFamily 16 = .ok (.bipush 126, 2) := by decide +kernel
theorem dX5_behindFamily_18 : decode cX5_behindFamily 18 = .ok (.if_icmp .gt 10, 3) := by decide +kernel
theorem dX5_behindFamily_21 : decode cX5_behindFamily 21 = .ok (.aload_n 0, 1) := by decide +kernel
theorem dX5_behindFamily_22 : decode cX5_behindFamily 22 = .ok (.iload_n 1, 1) := by decide +kernel
theorem dX5_behindFamily_23 : decode cX5_behindFamily 23 = .ok (.putfield 21, 3) := by decide +kernel
theorem dX5_behindFamily_26 : decode cX5_behindFamily 26 = .ok (.iconst 0, 1) := by decide +kernel
theorem dX5_behindFamily_27 : decode cX5_behindFamily 27 = .ok (.ireturn, 1) := by decide +kernel
theorem dX5_behindFamily_28 : decode cX5_behindFamily 28 = .ok (.aload_n 0, 1) := by decide +kernel
theorem dX5_behindFamily_29 : decode cX5_behindFamily 29 = .ok (.iload_n 1, 1) := by decide +kernel
theorem dX5_behindFamily_30 : decode cX5_behindFamily 30 = .ok (.invokevirtual 38, 3) := by decide +kernel
theorem dX5_behindFamily_33 : decode cX5_behindFamily 33 = .ok (.ireturn, 1) := by decide +kernel
theorem dX5_beginField_0 : decode cX5_beginField 0 = .ok (.aload_n 0, 1) := by decide +kernel
theorem dX5_beginField_1 : decode cX5_beginField 1 = .ok (.iconst 0, 1) := by decide +kernel
theorem dX5_beginField_2 : decode cX5_beginField 2 = .ok (.putfield 44, 3) := by decide +kernel
theorem dX5_beginField_5 : decode cX5_beginField 5 = .ok (.aload_n 0, 1) := by decide +kernel
theorem dX5_beginField_6 : decode cX5_beginField 6 = .ok (.iconst 0, 1) := by decide +kernel
theorem dX5_beginField_7 : decode cX5_beginField 7 = .ok (.putfield 47, 3) := by decide +kernel
theorem dX5_beginField_10 : decode cX5_beginField 10 = .ok (.aload_n 0, 1) := by decide +kernel
theorem dX5_beginField_11 : decode cX5_beginField 11 = .ok (.iconst 0, 1) := by decide +kernel
theorem dX5_beginField_12 : decode cX5_beginField 12 = .ok (.putfield 51, 3) := by decide +kernel
theorem dX5_beginField_15 : decode cX5_beginField 15 = .ok (.aload_n 0, 1) := by decide +kernel
theorem dX5_beginField_16 : decode cX5_beginField 16 = .ok (.iconst 0, 1) := by decide +kernel
theorem dX5_beginField_17 : decode cX5_beginField 17 = .ok (.putfield 54, 3) := by decide +kernel
theorem dX5_beginField_20 : decode cX5_beginField 20 = .ok (.aload_n 0, 1) := by decide +kernel
theorem dX5_beginField_21 : decode cX5_beginField 21 = .ok (.iconst 0, 1) := by decide +kernel
theorem dX5_beginField_22 : decode cX5_beginField 22 = .ok (.putfield 57, 3) := by decide +kernel
theorem dX5_beginField_25 : decode cX5_beginField 25 = .ok (.aload_n 0, 1) := by decide +kernel
theorem dX5_beginField_26 : decode cX5_beginField 26 = .ok (.sipush 1000, 3) := by decide +kernel
theorem dX5_beginField_29 : decode cX5_beginField 29 = .ok (.putfield 60, 3) := by decide +kernel
theorem dX5_beginField_32 : decode cX5_beginField 32 = .ok (.return_, 1) := by decide +kernel
theorem dX5_inField_0 : decode cX5_inField 0 = .ok (.iload_n 1, 1) := by decide +kernel
theorem dX5_inField_1 : decode cX5_inField 1 = .ok (.bipush 96, 2) := by decide +kernel
theorem dX5_inField_3 : decode cX5_inField 3 = .ok (.if_icmp .lt 19, 3) := by decide +kernel
theorem dX5_inField_6 : decode cX5_inField 6 = .ok (.iload_n 1, 1) := by decide +kernel
theorem dX5_inField_7 : decode cX5_inField 7 = .ok (.bipush 126, 2) := by decide +kernel
theorem dX5_inField_9 : decode cX5_inField 9 = .ok (.if_icmp .gt 13, 3) := by decide +kernel
theorem dX5_inField_12 : decode cX5_inField 12 = .ok (.aload_n 0, 1) := by decide +kernel
theorem dX5_inField_13 : decode cX5_inField 13 = .ok (.iload_n 1, 1) := by decide +kernel
theorem dX5_inField_14 : decode cX5_inField 14 = .ok (.bipush 32, 2) := by decide +kernel
theorem dX5_inField_16 : decode cX5_inField 16 = .ok (.isub, 1) := by decide +kernel
theorem dX5_inField_17 : decode cX5_inField 17 = .ok (.invokevirtual 63, 3) := by decide +kernel
theorem dX5_inField_20 : decode cX5_inField 20 = .ok (.iconst 4, 1) := by decide +kernel
theorem dX5_inField_21 : decode cX5_inField 21 = .ok (.ireturn, 1) := by decide +kernel
theorem dX5_inField_22 : decode cX5_inField 22 = .ok (.iload_n 1, 1) := by decide +kernel
theorem dX5_inField_23 : decode cX5_inField 23 = .ok (.bipush 64, 2) := by decide +kernel
theorem dX5_inField_25 : decode cX5_inField 25 = .ok (.if_icmp .lt 21, 3) := by decide +kernel
theorem dX5_inField_28 : decode cX5_inField 28 = .ok (.iload_n 1, 1) := by decide +kernel
theorem dX5_inField_29 : decode cX5_inField 29 = .ok (.bipush 94, 2) := by decide +kernel
theorem dX5_inField_31 : decode cX5_inField 31 = .ok (.if_icmp .gt 15, 3) := by decide +kernel
theorem dX5_inField_34 : decode cX5_inField 34 = .ok (.aload_n 0, 1) := by decide +kernel
theorem dX5_inField_35 : decode cX5_inField 35 = .ok (.iconst 0, 1) := by decide +kernel
theorem dX5_inField_36 : decode cX5_inField 36 = .ok (.putfield 9, 3) := by decide +kernel
theorem dX5_inField_39 : decode cX5_inField 39 = .ok (.aload_n 0, 1) := by decide +kernel
theorem dX5_inField_40 : decode cX5_inField 40 = .ok (.iload_n 1, 1) := by decide +kernel
theorem dX5_inField_41 : decode cX5_inField 41 = .ok (.invokevirtual 63, 3) := by decide +kernel
theorem dX5_inField_44 : decode cX5_inField 44 = .ok (.iconst 4, 1) := by decide +kernel
theorem dX5_inField_45 : decode cX5_inField 45 = .ok (.ireturn, 1) := by decide +kernel
theorem dX5_inField_46 : decode cX5_inField 46 = .ok (.aload_n 0, 1) := by decide +kernel
theorem dX5_inField_47 : decode cX5_inField 47 = .ok (.iload_n 1, 1) := by decide +kernel
theorem dX5_inField_48 : decode cX5_inField 48 = .ok (.invokevirtual 67, 3) := by decide +kernel
theorem dX5_inField_51 : decode cX5_inField 51 = .ok (.ifCond .ne 8, 3) := by decide +kernel
theorem dX5_inField_54 : decode cX5_inField 54 = .ok (.aload_n 0, 1) := by decide +kernel
theorem dX5_inField_55 : decode cX5_inField 55 = .ok (.iconst 0, 1) := by decide +kernel
theorem dX5_inField_56 : decode cX5_inField 56 = .ok (.putfield 9, 3) := by decide +kernel
theorem dX5_inField_59 : decode cX5_inField 59 = .ok (.iconst 0, 1) := by decide +kernel
theorem dX5_inField_60 : decode cX5_inField 60 = .ok (.ireturn, 1) := by decide +kernel
theorem dX5_belongsToValue_0 : decode cX5_belongsToValue 0 = .ok (.iload_n 1, 1) := by decide +kernel
theorem dX5_belongsToValue_1 : decode cX5_belongsToValue 1 = .ok (.bipush 48, 2) := by decide +kernel
theorem dX5_belongsToValue_3 : decode cX5_belongsToValue 3 = .ok (.if_icmp .lt 19, 3) := by decide +kernel
theorem dX5_belongsToValue_6 : decode cX5_belongsToValue 6 = .ok (.iload_n 1, 1) := by decide +kernel
theorem dX5_belongsToValue_7 : decode cX5_belongsToValue 7 = .ok (.bipush 57, 2) := by decide +kernel
theorem dX5_belongsToValue_9 : decode cX5_belongsToValue 9 = .ok (.if_icmp .gt 13, 3) := by decide +kernel
theorem dX5_belongsToValue_12 : decode cX5_belongsToValue 12 = .ok (.aload_n 0, 1) := by decide +kernel
theorem dX5_belongsToValue_13 : decode cX5_belongsToValue 13 = .ok (.iload_n 1, 1) := by decide +kernel
theorem dX5_belongsToValue_14 : decode cX5_belongsToValue 14 = .ok (.bipush 48, 2) := by decide +kernel
theorem dX5_belongsToValue_16 : decode cX5_belongsToValue 16 = .ok (.isub, 1) := by decide +kernel
theorem dX5_belongsToValue_17 : decode cX5_belongsToValue 17 = .ok (.invokevirtual 71, 3) := by decide +kernel
theorem dX5_belongsToValue_20 : decode cX5_belongsToValue 20 = .ok (.iconst 1, 1) := by decide +kernel
theorem dX5_belongsToValue_21 : decode cX5_belongsToValue 21 = .ok (.ireturn, 1) := by decide +kernel
theorem dX5_belongsToValue_22 : decode cX5_belongsToValue 22 = .ok (.iload_n 1, 1) := by decide +kernel
theorem dX5_belongsToValue_23 : decode cX5_belongsToValue 23 = .ok (.bipush 46, 2) := by decide +kernel
theorem dX5_belongsToValue_25 : decode cX5_belongsToValue 25 = .ok (.if_icmp .ne 18, 3) := by decide +kernel
theorem dX5_belongsToValue_28 : decode cX5_belongsToValue 28 = .ok (.aload_n 0, 1) := by decide +kernel
theorem dX5_belongsToValue_29 : decode cX5_belongsToValue 29 = .ok (.getfield 44, 3) := by decide +kernel
theorem dX5_belongsToValue_32 : decode cX5_belongsToValue 32 = .ok (.iconst 3, 1) := by decide +kernel
theorem dX5_belongsToValue_33 : decode cX5_belongsToValue 33 = .ok (.if_icmp .eq 10, 3) := by decide +kernel
theorem dX5_belongsToValue_36 : decode cX5_belongsToValue 36 = .ok (.aload_n 0, 1) := by decide +kernel
theorem dX5_belongsToValue_37 : decode cX5_belongsToValue 37 = .ok (.iconst 3, 1) := by decide +kernel
theorem dX5_belongsToValue_38 : decode cX5_belongsToValue 38 = .ok (.putfield 44, 3) := by decide +kernel
theorem dX5_belongsToValue_41 : decode cX5_belongsToValue 41 = .ok (.iconst 1, 1) := by decide +kernel
theorem dX5_belongsToValue_42 : decode cX5_belongsToValue 42 = .ok (.ireturn, 1) := by decide +kernel
theorem dX5_belongsToValue_43 : decode cX5_belongsToValue 43 = .ok (.iload_n 1, 1) := by decide +kernel
theorem dX5_belongsToValue_44 : decode cX5_belongsToValue 44 = .ok (.bipush 43, 2) := by decide +kernel
theorem dX5_belongsToValue_46 : decode cX5_belongsToValue 46 = .ok (.if_icmp .eq 9, 3) := by decide +kernel
theorem dX5_belongsToValue_49 : decode cX5_belongsToValue 49 = .ok (.iload_n 1, 1) := by decide +kernel
theorem dX5_belongsToValue_50 : decode cX5_belongsToValue 50 = .ok (.bipush 45, 2) := by decide +kernel
theorem dX5_belongsToValue_52 : decode cX5_belongsToValue 52 = .ok (.if_icmp .ne 47, 3) := by decide +kernel
theorem dX5_belongsToValue_55 : decode cX5_belongsToValue 55 = .ok (.aload_n 0, 1) := by decide +kernel
theorem dX5_belongsToValue_56 : decode cX5_belongsToValue 56 = .ok (.getfield 44, 3) := by decide +kernel
theorem dX5_belongsToValue_59 : decode cX5_belongsToValue 59 = .ok (.ifCond .ne 40, 3) := by decide +kernel
theorem dX5_belongsToValue_62 : decode cX5_belongsToValue 62 = .ok (.aload_n 0, 1) := by decide +kernel
theorem dX5_belongsToValue_63 : decode cX5_belongsToValue 63 = .ok (.iconst 1, 1) := by decide +kernel
theorem dX5_belongsToValue_64 : decode cX5_belongsToValue 64 = .ok (.putfield 44, 3) := by decide +kernel
theorem dX5_belongsToValue_67 : decode cX5_belongsToValue 67 = .ok (.aload_n 0, 1) := by decide +kernel
theorem dX5_belongsToValue_68 : decode cX5_belongsToValue 68 = .ok (.iload_n 1, 1) := by decide +kernel
theorem dX5_belongsToValue_69 : decode cX5_belongsToValue 69 = .ok (.bipush 43, 2) := by decide +kernel
theorem dX5_belongsToValue_71 : decode cX5_belongsToValue 71 = .ok (.if_icmp .ne 7, 3) := by decide +kernel
theorem dX5_belongsToValue_74 : decode cX5_belongsToValue 74 = .ok (.iconst 1, 1) := by decide +kernel
theorem dX5_belongsToValue_75 : decode cX5_belongsToValue 75 = .ok (.goto 4, 3) := by decide +kernel
theorem dX5_belongsToValue_78 : decode cX5_belongsToValue 78 = .ok (.iconst 0, 1) := by decide +kernel
theorem dX5_belongsToValue_79 : decode cX5_belongsToValue 79 = .ok (.putfield 47, 3) := by decide +kernel
theorem dX5_belongsToValue_82 : decode cX5_belongsToValue 82 = .ok (.aload_n 0, 1) := by decide +kernel
theorem dX5_belongsToValue_83 : decode cX5_belongsToValue 83 = .ok (.iload_n 1, 1) := by decide +kernel
theorem dX5_belongsToValue_84 : decode cX5_belongsToValue 84 = .ok (.bipush 45, 2) := by decide +kernel
theorem dX5_belongsToValue_86 : decode cX5_belongsToValue 86 = .ok (.if_icmp .ne 7, 3) := by decide +kernel
theorem dX5_belongsToValue_89 : decode cX5_belongsToValue 89 = .ok (.iconst 1, 1) := by decide +kernel
theorem dX5_belongsToValue_90 : decode cX5_belongsToValue 90 = .ok (.goto 4, 3) := by decide +kernel
theorem dX5_belongsToValue_93 : decode cX5_belongsToValue 93 = .ok (.iconst 0, 1) := by decide +kernel
theorem dX5_belongsToValue_94 : decode cX5_belongsToValue 94 = .ok (.putfield 51, 3) := by decide +kernel
theorem dX5_belongsToValue_97 : decode cX5_belongsToValue 97 = .ok (.iconst 1, 1) := by decide +kernel
theorem dX5_belongsToValue_98 : decode cX5_belongsToValue 98 = .ok (.ireturn, 1) := by decide +kernel
theorem dX5_belongsToValue_99 : decode cX5_belongsToValue 99 = .ok (.iconst 0, 1) := by decide +kernel
theorem dX5_belongsToValue_100 : decode cX5_belongsToValue 100 = .ok (.ireturn, 1) := by decide +kernel
theorem dX5_digit_0 : decode cX5_digit 0 = .ok (.aload_n 0, 1) := by decide +kernel
theorem dX5_digit_1 : decode cX5_digit 1 = .ok (.getfield 44, 3) := by decide +kernel
theorem dX5_digit_4 : decode cX5_digit 4 = .ok (.iconst 3, 1) := by decide +kernel
theorem dX5_digit_5 : decode cX5_digit 5 = .ok (.if_icmp .ne 32, 3) := by decide +kernel
theorem dX5_digit_8 : decode cX5_digit 8 = .ok (.aload_n 0, 1) := by decide +kernel
theorem dX5_digit_9 : decode cX5_digit 9 = .ok (.dup, 1) := by decide +kernel
theorem dX5_digit_10 : decode cX5_digit 10 = .ok (.getfield 57, 3) := by decide +kernel
theorem dX5_digit_13 : decode cX5_digit 13 = .ok (.iload_n 1, 1) := by decide +kernel
theorem dX5_digit_14 : decode cX5_digit 14 = .ok (.aload_n 0, 1) := by decide +kernel
theorem dX5_digit_15 : decode cX5_digit 15 = .ok (.getfield 60, 3) := by decide +kernel
theorem dX5_digit_18 : decode cX5_digit 18 = .ok (.imul, 1) := by decide +kernel
theorem dX5_digit_19 : decode cX5_digit 19 = .ok (.iadd, 1) := by decide +kernel
theorem dX5_digit_20 : decode cX5_digit 20 = .ok (.putfield 57, 3) := by decide +kernel
theorem dX5_digit_23 : decode cX5_digit 23 = .ok (.aload_n 0, 1) := by decide +kernel
theorem dX5_digit_24 : decode cX5_digit 24 = .ok (.dup, 1) := by decide +kernel
theorem dX5_digit_25 : decode cX5_digit 25 = .ok (.getfield 60, 3) := by decide +kernel
theorem dX5_digit_28 : decode cX5_digit 28 = .ok (.bipush 10, 2) := by decide +kernel
theorem dX5_digit_30 : decode cX5_digit 30 = .ok (.idiv, 1) := by decide +kernel
theorem dX5_digit_31 : decode cX5_digit 31 = .ok (.putfield 60, 3) := by decide +kernel
theorem dX5_digit_34 : decode cX5_digit 34 = .ok (.goto 27, 3) := by decide +kernel
theorem dX5_digit_37 : decode cX5_digit 37 = .ok (.aload_n 0, 1) := by decide +kernel
theorem dX5_digit_38 : decode cX5_digit 38 = .ok (.iconst 2, 1) := by decide +kernel
theorem dX5_digit_39 : decode cX5_digit 39 = .ok (.putfield 44, 3) := by decide +kernel
theorem dX5_digit_42 : decode cX5_digit 42 = .ok (.aload_n 0, 1) := by decide +kernel
theorem dX5_digit_43 : decode cX5_digit 43 = .ok (.sipush 32767, 3) := by decide +kernel
theorem dX5_digit_46 : decode cX5_digit 46 = .ok (.aload_n 0, 1) := by decide +kernel
theorem dX5_digit_47 : decode cX5_digit 47 = .ok (.getfield 54, 3) := by decide +kernel
theorem dX5_digit_50 : decode cX5_digit 50 = .ok (.bipush 10, 2) := by decide +kernel
theorem dX5_digit_52 : decode cX5_digit 52 = .ok (.imul, 1) := by decide +kernel
theorem dX5_digit_53 : decode cX5_digit 53 = .ok (.iload_n 1, 1) := by decide +kernel
theorem dX5_digit_54 : decode cX5_digit 54 = .ok (.iadd, 1) := by decide +kernel
theorem dX5_digit_55 : decode cX5_digit 55 = .ok (.invokestatic 74, 3) := by decide +kernel
theorem dX5_digit_58 : decode cX5_digit 58 = .ok (.putfield 54, 3) := by decide +kernel
theorem dX5_digit_61 : decode cX5_digit 61 = .ok (.return_, 1) := by decide +kernel
theorem dX5_endField_0 : decode cX5_endField 0 = .ok (.aload_n 0, 1) := by decide +kernel
theorem dX5_endField_1 : decode cX5_endField 1 = .ok (.getfield 54, 3) := by decide +kernel
theorem dX5_endField_4 : decode cX5_endField 4 = .ok (.sipush 10000, 3) := by decide +kernel
theorem dX5_endField_7 : decode cX5_endField 7 = .ok (.imul, 1) := by decide +kernel
theorem dX5_endField_8 : decode cX5_endField 8 = .ok (.aload_n 0, 1) := by decide +kernel
theorem dX5_endField_9 : decode cX5_endField 9 = .ok (.getfield 57, 3) := by decide +kernel
theorem dX5_endField_12 : decode cX5_endField 12 = .ok (.iadd, 1) := by decide +kernel
theorem dX5_endField_13 : decode cX5_endField 13 = .ok (.istore_n 2, 1) := by decide +kernel
theorem dX5_endField_14 : decode cX5_endField 14 = .ok (.aload_n 0, 1) := by decide +kernel
theorem dX5_endField_15 : decode cX5_endField 15 = .ok (.aload_n 0, 1) := by decide +kernel
theorem dX5_endField_16 : decode cX5_endField 16 = .ok (.getfield 51, 3) := by decide +kernel
theorem dX5_endField_19 : decode cX5_endField 19 = .ok (.ifCond .eq 8, 3) := by decide +kernel
theorem dX5_endField_22 : decode cX5_endField 22 = .ok (.iload_n 2, 1) := by decide +kernel
theorem dX5_endField_23 : decode cX5_endField 23 = .ok (.ineg, 1) := by decide +kernel
theorem dX5_endField_24 : decode cX5_endField 24 = .ok (.goto 4, 3) := by decide +kernel
theorem dX5_endField_27 : decode cX5_endField 27 = .ok (.iload_n 2, 1) := by decide +kernel
theorem dX5_endField_28 : decode cX5_endField 28 = .ok (.putfield 80, 3) := by decide +kernel
theorem dX5_endField_31 : decode cX5_endField 31 = .ok (.aload_n 0, 1) := by decide +kernel
theorem dX5_endField_32 : decode cX5_endField 32 = .ok (.aload_n 0, 1) := by decide +kernel
theorem dX5_endField_33 : decode cX5_endField 33 = .ok (.getfield 47, 3) := by decide +kernel
theorem dX5_endField_36 : decode cX5_endField 36 = .ok (.ifCond .ne 10, 3) := by decide +kernel
theorem dX5_endField_39 : decode cX5_endField 39 = .ok (.aload_n 0, 1) := by decide +kernel
theorem dX5_endField_40 : decode cX5_endField 40 = .ok (.getfield 51, 3) := by decide +kernel
theorem dX5_endField_43 : decode cX5_endField 43 = .ok (.ifCond .eq 7, 3) := by decide +kernel
theorem dX5_endField_46 : decode cX5_endField 46 = .ok (.iconst 1, 1) := by decide +kernel
theorem dX5_endField_47 : decode cX5_endField 47 = .ok (.goto 4, 3) := by decide +kernel
theorem dX5_endField_50 : decode cX5_endField 50 = .ok (.iconst 0, 1) := by decide +kernel
theorem dX5_endField_51 : decode cX5_endField 51 = .ok (.putfield 83, 3) := by decide +kernel
theorem dX5_endField_54 : decode cX5_endField 54 = .ok (.aload_n 0, 1) := by decide +kernel
theorem dX5_endField_55 : decode cX5_endField 55 = .ok (.iload_n 1, 1) := by decide +kernel
theorem dX5_endField_56 : decode cX5_endField 56 = .ok (.putfield 24, 3) := by decide +kernel
theorem dX5_endField_59 : decode cX5_endField 59 = .ok (.aload_n 0, 1) := by decide +kernel
theorem dX5_endField_60 : decode cX5_endField 60 = .ok (.aload_n 0, 1) := by decide +kernel
theorem dX5_endField_61 : decode cX5_endField 61 = .ok (.getfield 24, 3) := by decide +kernel
theorem dX5_endField_64 : decode cX5_endField 64 = .ok (.bipush 87, 2) := by decide +kernel
theorem dX5_endField_66 : decode cX5_endField 66 = .ok (.if_icmp .eq 10, 3) := by decide +kernel
theorem dX5_endField_69 : decode cX5_endField 69 = .ok (.aload_n 0, 1) := by decide +kernel
theorem dX5_endField_70 : decode cX5_endField 70 = .ok (.invokevirtual 27, 3) := by decide +kernel
theorem dX5_endField_73 : decode cX5_endField 73 = .ok (.ifCond .eq 17, 3) := by decide +kernel
theorem dX5_endField_76 : decode cX5_endField 76 = .ok (.aload_n 0, 1) := by decide +kernel
theorem dX5_endField_77 : decode cX5_endField 77 = .ok (.getfield 51, 3) := by decide +kernel
theorem dX5_endField_80 : decode cX5_endField 80 = .ok (.ifCond .ne 10, 3) := by decide +kernel
theorem dX5_endField_83 : decode cX5_endField 83 = .ok (.aload_n 0, 1) := by decide +kernel
theorem dX5_endField_84 : decode cX5_endField 84 = .ok (.getfield 54, 3) := by decide +kernel
theorem dX5_endField_87 : decode cX5_endField 87 = .ok (.goto 4, 3) := by decide +kernel
theorem dX5_endField_90 : decode cX5_endField 90 = .ok (.iconst 0, 1) := by decide +kernel
theorem dX5_endField_91 : decode cX5_endField 91 = .ok (.putfield 15, 3) := by decide +kernel
theorem dX5_endField_94 : decode cX5_endField 94 = .ok (.aload_n 0, 1) := by decide +kernel
theorem dX5_endField_95 : decode cX5_endField 95 = .ok (.invokevirtual 41, 3) := by decide +kernel
theorem dX5_endField_98 : decode cX5_endField 98 = .ok (.return_, 1) := by decide +kernel
theorem dX6_init_0 : decode cX6_init 0 = .ok (.aload_n 0, 1) := by decide +kernel
theorem dX6_init_1 : decode cX6_init 1 = .ok (.invokespecial 1, 3) := by decide +kernel
theorem dX6_init_4 : decode cX6_init 4 = .ok (.aload_n 0, 1) := by decide +kernel
theorem dX6_init_5 : decode cX6_init 5 = .ok (.sipush 6000, 3) := by decide +kernel
theorem dX6_init_8 : decode cX6_init 8 = .ok (.newarray .long, 2) := by decide +kernel
theorem dX6_init_10 : decode cX6_init 10 = .ok (.putfield 9, 3) := by decide +kernel
theorem dX6_init_13 : decode cX6_init 13 = .ok (.return_, 1) := by decide +kernel
theorem dX6_isOverrun_0 : decode cX6_isOverrun 0 = .ok (.aload_n 0, 1) := by decide +kernel
theorem dX6_isOverrun_1 : decode cX6_isOverrun 1 = .ok (.getfield 13, 3) := by decide +kernel
theorem dX6_isOverrun_4 : decode cX6_isOverrun 4 = .ok (.aload_n 0, 1) := by decide +kernel
theorem dX6_isOverrun_5 : decode cX6_isOverrun 5 = .ok (.getfield 17, 3) := by decide +kernel
theorem dX6_isOverrun_8 : decode cX6_isOverrun 8 = .ok (.if_icmp .le 7, 3) := by decide +kernel
theorem dX6_isOverrun_11 : decode cX6_isOverrun 11 = .ok (.iconst 1, 1) := by decide +kernel
theorem dX6_isOverrun_12 : decode cX6_isOverrun 12 = .ok (.goto 4, 3) := by decide +kernel
theorem dX6_isOverrun_15 : decode cX6_isOverrun 15 = .ok (.iconst 0, 1) := by decide +kernel
theorem dX6_isOverrun_16 : decode cX6_isOverrun 16 = .ok (.ireturn, 1) := by decide +kernel
theorem dX6_isDue_0 : decode cX6_isDue 0 = .ok (.aload_n 0, 1) := by decide +kernel
theorem dX6_isDue_1 : decode cX6_isDue 1 = .ok (.getfield 20, 3) := by decide +kernel
theorem dX6_isDue_4 : decode cX6_isDue 4 = .ok (.ifCond .ne 10, 3) := by decide +kernel
theorem dX6_isDue_7 : decode cX6_isDue 7 = .ok (.aload_n 0, 1) := by decide +kernel
theorem dX6_isDue_8 : decode cX6_isDue 8 = .ok (.getfield 17, 3) := by decide +kernel
theorem dX6_isDue_11 : decode cX6_isDue 11 = .ok (.ifCond .le 7, 3) := by decide +kernel
theorem dX6_isDue_14 : decode cX6_isDue 14 = .ok (.iconst 1, 1) := by decide +kernel
theorem dX6_isDue_15 : decode cX6_isDue 15 = .ok (.goto 4, 3) := by decide +kernel
theorem dX6_isDue_18 : decode cX6_isDue 18 = .ok (.iconst 0, 1) := by decide +kernel
theorem dX6_isDue_19 : decode cX6_isDue 19 = .ok (.ireturn, 1) := by decide +kernel
theorem dX6_clear_0 : decode cX6_clear 0 = .ok (.aload_n 0, 1) := by decide +kernel
theorem dX6_clear_1 : decode cX6_clear 1 = .ok (.iconst 0, 1) := by decide +kernel
theorem dX6_clear_2 : decode cX6_clear 2 = .ok (.putfield 17, 3) := by decide +kernel
theorem dX6_clear_5 : decode cX6_clear 5 = .ok (.aload_n 0, 1) := by decide +kernel
theorem dX6_clear_6 : decode cX6_clear 6 = .ok (.iconst 0, 1) := by decide +kernel
theorem dX6_clear_7 : decode cX6_clear 7 = .ok (.putfield 13, 3) := by decide +kernel
theorem dX6_clear_10 : decode cX6_clear 10 = .ok (.aload_n 0, 1) := by decide +kernel
theorem dX6_clear_11 : decode cX6_clear 11 = .ok (.iconst 0, 1) := by decide +kernel
theorem dX6_clear_12 : decode cX6_clear 12 = .ok (.putfield 20, 3) := by decide +kernel
theorem dX6_clear_15 : decode cX6_clear 15 = .ok (.return_, 1) := by decide +kernel
theorem dX6_put_0 : decode cX6_put 0 = .ok (.aload_n 0, 1) := by decide +kernel
theorem dX6_put_1 : decode cX6_put 1 = .ok (.dup, 1) := by decide +kernel
theorem dX6_put_2 : decode cX6_put 2 = .ok (.getfield 13, 3) := by decide +kernel
theorem dX6_put_5 : decode cX6_put 5 = .ok (.iconst 1, 1) := by decide +kernel
theorem dX6_put_6 : decode cX6_put 6 = .ok (.iadd, 1) := by decide +kernel
theorem dX6_put_7 : decode cX6_put 7 = .ok (.putfield 13, 3) := by decide +kernel
theorem dX6_put_10 : decode cX6_put 10 = .ok (.aload_n 0, 1) := by decide +kernel
theorem dX6_put_11 : decode cX6_put 11 = .ok (.getfield 17, 3) := by decide +kernel
theorem dX6_put_14 : decode cX6_put 14 = .ok (.sipush 6000, 3) := by decide +kernel
theorem dX6_put_17 : decode cX6_put 17 = .ok (.if_icmp .ge 42, 3) := by decide +kernel
theorem dX6_put_20 : decode cX6_put 20 = .ok (.aload_n 0, 1) := by decide +kernel
theorem dX6_put_21 : decode cX6_put 21 = .ok (.getfield 9, 3) := by decide +kernel
theorem dX6_put_24 : decode cX6_put 24 = .ok (.aload_n 0, 1) := by decide +kernel
theorem dX6_put_25 : decode cX6_put 25 = .ok (.getfield 17, 3) := by decide +kernel
theorem dX6_put_28 : decode cX6_put 28 = .ok (.iload_n 1, 1) := by decide +kernel
theorem dX6_put_29 : decode cX6_put 29 = .ok (.i2l, 1) := by decide +kernel
theorem dX6_put_30 : decode cX6_put 30 = .ok (.bipush 26, 2) := by decide +kernel
theorem dX6_put_32 : decode cX6_put 32 = .ok (.lshl, 1) := by decide +kernel
theorem dX6_put_33 : decode cX6_put 33 = .ok (.iload_n 2, 1) := by decide +kernel
theorem dX6_put_34 : decode cX6_put 34 = .ok (.i2l, 1) := by decide +kernel
theorem dX6_put_35 : decode cX6_put 35 = .ok (.bipush 9, 2) := by decide +kernel
theorem dX6_put_37 : decode cX6_put 37 = .ok (.lshl, 1) := by decide +kernel
theorem dX6_put_38 : decode cX6_put 38 = .ok (.lor, 1) := by decide +kernel
theorem dX6_put_39 : decode cX6_put 39 = .ok (.iload_n 3, 1) := by decide +kernel
theorem dX6_put_40 : decode cX6_put 40 = .ok (.i2l, 1) := by decide +kernel
theorem dX6_put_41 : decode cX6_put 41 = .ok (.iconst 1, 1) := by decide +kernel
theorem dX6_put_42 : decode cX6_put 42 = .ok (.lshl, 1) := by decide +kernel
theorem dX6_put_43 : decode cX6_put 43 = .ok (.lor, 1) := by decide +kernel
theorem dX6_put_44 : decode cX6_put 44 = .ok (.iload 4, 2) := by decide +kernel
theorem dX6_put_46 : decode cX6_put 46 = .ok (.i2l, 1) := by decide +kernel
theorem dX6_put_47 : decode cX6_put 47 = .ok (.lor, 1) := by decide +kernel
theorem dX6_put_48 : decode cX6_put 48 = .ok (.lastore, 1) := by decide +kernel
theorem dX6_put_49 : decode cX6_put 49 = .ok (.aload_n 0, 1) := by decide +kernel
theorem dX6_put_50 : decode cX6_put 50 = .ok (.dup, 1) := by decide +kernel
theorem dX6_put_51 : decode cX6_put 51 = .ok (.getfield 17, 3) := by decide +kernel
theorem dX6_put_54 : decode cX6_put 54 = .ok (.iconst 1, 1) := by decide +kernel
theorem dX6_put_55 : decode cX6_put 55 = .ok (.iadd, 1) := by decide +kernel
theorem dX6_put_56 : decode cX6_put 56 = .ok (.putfield 17, 3) := by decide +kernel
theorem dX6_put_59 : decode cX6_put 59 = .ok (.return_, 1) := by decide +kernel
theorem dX6_partOf_0 : decode cX6_partOf 0 = .ok (.aload_n 0, 1) := by decide +kernel
theorem dX6_partOf_1 : decode cX6_partOf 1 = .ok (.getfield 9, 3) := by decide +kernel
theorem dX6_partOf_4 : decode cX6_partOf 4 = .ok (.iload_n 1, 1) := by decide +kernel
theorem dX6_partOf_5 : decode cX6_partOf 5 = .ok (.laload, 1) := by decide +kernel
theorem dX6_partOf_6 : decode cX6_partOf 6 = .ok (.lstore_n 3, 1) := by decide +kernel
theorem dX6_partOf_7 : decode cX6_partOf 7 = .ok (.iload_n 2, 1) := by decide +kernel
theorem dX6_partOf_8 : decode cX6_partOf 8 = .ok (.tableswitch 52 0 2 #[28, 34, 43], 28) := by decide +kernel
theorem dX6_partOf_36 : decode cX6_partOf 36 = .ok (.lload_n 3, 1) := by decide +kernel
theorem dX6_partOf_37 : decode cX6_partOf 37 = .ok (.bipush 26, 2) := by decide +kernel
theorem dX6_partOf_39 : decode cX6_partOf 39 = .ok (.lushr, 1) := by decide +kernel
theorem dX6_partOf_40 : decode cX6_partOf 40 = .ok (.l2i, 1) := by decide +kernel
theorem dX6_partOf_41 : decode cX6_partOf 41 = .ok (.ireturn, 1) := by decide +kernel
theorem dX6_partOf_42 : decode cX6_partOf 42 = .ok (.lload_n 3, 1) := by decide +kernel
theorem dX6_partOf_43 : decode cX6_partOf 43 = .ok (.bipush 9, 2) := by decide +kernel
theorem dX6_partOf_45 : decode cX6_partOf 45 = .ok (.lushr, 1) := by decide +kernel
theorem dX6_partOf_46 : decode cX6_partOf 46 = .ok (.l2i, 1) := by decide +kernel
theorem dX6_partOf_47 : decode cX6_partOf 47 = .ok (.ldc 24, 2) := by decide +kernel
theorem dX6_partOf_49 : decode cX6_partOf 49 = .ok (.iand, 1) := by decide +kernel
theorem dX6_partOf_50 : decode cX6_partOf 50 = .ok (.ireturn, 1) := by decide +kernel
theorem dX6_partOf_51 : decode cX6_partOf 51 = .ok (.lload_n 3, 1) := by decide +kernel
theorem dX6_partOf_52 : decode cX6_partOf 52 = .ok (.iconst 1, 1) := by decide +kernel
theorem dX6_partOf_53 : decode cX6_partOf 53 = .ok (.lushr, 1) := by decide +kernel
theorem dX6_partOf_54 : decode cX6_partOf 54 = .ok (.l2i, 1) := by decide +kernel
theorem dX6_partOf_55 : decode cX6_partOf 55 = .ok (.sipush 255, 3) := by decide +kernel
theorem dX6_partOf_58 : decode cX6_partOf 58 = .ok (.iand, 1) := by decide +kernel
theorem dX6_partOf_59 : decode cX6_partOf 59 = .ok (.ireturn, 1) := by decide +kernel
theorem dX6_partOf_60 : decode cX6_partOf 60 = .ok (.lload_n 3, 1) := by decide +kernel
theorem dX6_partOf_61 : decode cX6_partOf 61 = .ok (.l2i, 1) := by decide +kernel
theorem dX6_partOf_62 : decode cX6_partOf 62 = .ok (.iconst 1, 1) := by decide +kernel
theorem dX6_partOf_63 : decode cX6_partOf 63 = .ok (.iand, 1) := by decide +kernel
theorem dX6_partOf_64 : decode cX6_partOf 64 = .ok (.ireturn, 1) := by decide +kernel
theorem dJ9_floorMod_7cf53_0 : decode cJ9_floorMod_7cf53 0 = .ok (.iload_n 0, 1) := by decide +kernel
theorem dJ9_floorMod_7cf53_1 : decode cJ9_floorMod_7cf53 1 = .ok (.iload_n 1, 1) := by decide +kernel
theorem dJ9_floorMod_7cf53_2 : decode cJ9_floorMod_7cf53 2 = .ok (.irem, 1) := by decide +kernel
theorem dJ9_floorMod_7cf53_3 : decode cJ9_floorMod_7cf53 3 = .ok (.istore_n 2, 1) := by decide +kernel
theorem dJ9_floorMod_7cf53_4 : decode cJ9_floorMod_7cf53 4 = .ok (.iload_n 0, 1) := by decide +kernel
theorem dJ9_floorMod_7cf53_5 : decode cJ9_floorMod_7cf53 5 = .ok (.iload_n 1, 1) := by decide +kernel
theorem dJ9_floorMod_7cf53_6 : decode cJ9_floorMod_7cf53 6 = .ok (.ixor, 1) := by decide +kernel
theorem dJ9_floorMod_7cf53_7 : decode cJ9_floorMod_7cf53 7 = .ok (.ifCond .ge 11, 3) := by decide +kernel
theorem dJ9_floorMod_7cf53_10 : decode cJ9_floorMod_7cf53 10 = .ok (.iload_n 2, 1) := by decide +kernel
theorem dJ9_floorMod_7cf53_11 : decode cJ9_floorMod_7cf53 11 = .ok (.ifCond .eq 7, 3) := by decide +kernel
theorem dJ9_floorMod_7cf53_14 : decode cJ9_floorMod_7cf53 14 = .ok (.iload_n 2, 1) := by decide +kernel
theorem dJ9_floorMod_7cf53_15 : decode cJ9_floorMod_7cf53 15 = .ok (.iload_n 1, 1) := by decide +kernel
theorem dJ9_floorMod_7cf53_16 : decode cJ9_floorMod_7cf53 16 = .ok (.iadd, 1) := by decide +kernel
theorem dJ9_floorMod_7cf53_17 : decode cJ9_floorMod_7cf53 17 = .ok (.ireturn, 1) := by decide +kernel
theorem dJ9_floorMod_7cf53_18 : decode cJ9_floorMod_7cf53 18 = .ok (.iload_n 2, 1) := by decide +kernel
theorem dJ9_floorMod_7cf53_19 : decode cJ9_floorMod_7cf53 19 = .ok (.ireturn, 1) := by decide +kernel
theorem dJ9_min_7cf53_0 : decode cJ9_min_7cf53 0 = .ok (.iload_n 0, 1) := by decide +kernel
theorem dJ9_min_7cf53_1 : decode cJ9_min_7cf53 1 = .ok (.iload_n 1, 1) := by decide +kernel
theorem dJ9_min_7cf53_2 : decode cJ9_min_7cf53 2 = .ok (.if_icmp .gt 7, 3) := by decide +kernel
theorem dJ9_min_7cf53_5 : decode cJ9_min_7cf53 5 = .ok (.iload_n 0, 1) := by decide +kernel
theorem dJ9_min_7cf53_6 : decode cJ9_min_7cf53 6 = .ok (.goto 4, 3) := by decide +kernel
theorem dJ9_min_7cf53_9 : decode cJ9_min_7cf53 9 = .ok (.iload_n 1, 1) := by decide +kernel
theorem dJ9_min_7cf53_10 : decode cJ9_min_7cf53 10 = .ok (.ireturn, 1) := by decide +kernel
theorem dJ7_fill_53178_0 : decode cJ7_fill_53178 0 = .ok (.iconst 0, 1) := by decide +kernel
theorem dJ7_fill_53178_1 : decode cJ7_fill_53178 1 = .ok (.istore_n 2, 1) := by decide +kernel
theorem dJ7_fill_53178_2 : decode cJ7_fill_53178 2 = .ok (.aload_n 0, 1) := by decide +kernel
theorem dJ7_fill_53178_3 : decode cJ7_fill_53178 3 = .ok (.arraylength, 1) := by decide +kernel
theorem dJ7_fill_53178_4 : decode cJ7_fill_53178 4 = .ok (.istore_n 3, 1) := by decide +kernel
theorem dJ7_fill_53178_5 : decode cJ7_fill_53178 5 = .ok (.iload_n 2, 1) := by decide +kernel
theorem dJ7_fill_53178_6 : decode cJ7_fill_53178 6 = .ok (.iload_n 3, 1) := by decide +kernel
theorem dJ7_fill_53178_7 : decode cJ7_fill_53178 7 = .ok (.if_icmp .ge 13, 3) := by decide +kernel
theorem dJ7_fill_53178_10 : decode cJ7_fill_53178 10 = .ok (.aload_n 0, 1) := by decide +kernel
theorem dJ7_fill_53178_11 : decode cJ7_fill_53178 11 = .ok (.iload_n 2, 1) := by decide +kernel
theorem dJ7_fill_53178_12 : decode cJ7_fill_53178 12 = .ok (.iload_n 1, 1) := by decide +kernel
theorem dJ7_fill_53178_13 : decode cJ7_fill_53178 13 = .ok (.iastore, 1) := by decide +kernel
theorem dJ7_fill_53178_14 : decode cJ7_fill_53178 14 = .ok (.iinc 2 1, 3) := by decide +kernel
theorem dJ7_fill_53178_17 : decode cJ7_fill_53178 17 = .ok (.goto (-12), 3) := by decide +kernel
theorem dJ7_fill_53178_20 : decode cJ7_fill_53178 20 = .ok (.return_, 1) := by decide +kernel
end
section
theorem dX7_init_0 : decode cX7_init 0 = .ok (.aload_n 0, 1) := by decide +kernel
theorem dX7_init_1 : decode cX7_init 1 = .ok (.invokespecial 1, 3) := by decide +kernel
theorem dX7_init_4 : decode cX7_init 4 = .ok (.aload_n 0, 1) := by decide +kernel
theorem dX7_init_5 : decode cX7_init 5 = .ok (.new 7, 3) := by decide +kernel
theorem dX7_init_8 : decode cX7_init 8 = .ok (.dup, 1) := by decide +kernel
theorem dX7_init_9 : decode cX7_init 9 = .ok (.invokespecial 9, 3) := by decide +kernel
theorem dX7_init_12 : decode cX7_init 12 = .ok (.putfield 10, 3) := by decide +kernel
theorem dX7_init_15 : decode cX7_init 15 = .ok (.aload_n 0, 1) := by decide +kernel
theorem dX7_init_16 : decode cX7_init 16 = .ok (.new 16, 3) := by decide +kernel
theorem dX7_init_19 : decode cX7_init 19 = .ok (.dup, 1) := by decide +kernel
theorem dX7_init_20 : decode cX7_init 20 = .ok (.invokespecial 18, 3) := by decide +kernel
theorem dX7_init_23 : decode cX7_init 23 = .ok (.putfield 19, 3) := by decide +kernel
theorem dX7_init_26 : decode cX7_init 26 = .ok (.aload_n 0, 1) := by decide +kernel
theorem dX7_init_27 : decode cX7_init 27 = .ok (.new 23, 3) := by decide +kernel
theorem dX7_init_30 : decode cX7_init 30 = .ok (.dup, 1) := by decide +kernel
theorem dX7_init_31 : decode cX7_init 31 = .ok (.invokespecial 25, 3) := by decide +kernel
theorem dX7_init_34 : decode cX7_init 34 = .ok (.putfield 26, 3) := by decide +kernel
theorem dX7_init_37 : decode cX7_init 37 = .ok (.aload_n 0, 1) := by decide +kernel
theorem dX7_init_38 : decode cX7_init 38 = .ok (.iconst 3, 1) := by decide +kernel
theorem dX7_init_39 : decode cX7_init 39 = .ok (.anewarray 23, 3) := by decide +kernel
theorem dX7_init_42 : decode cX7_init 42 = .ok (.putfield 30, 3) := by decide +kernel
theorem dX7_init_45 : decode cX7_init 45 = .ok (.iconst 0, 1) := by decide +kernel
theorem dX7_init_46 : decode cX7_init 46 = .ok (.istore_n 1, 1) := by decide +kernel
theorem dX7_init_47 : decode cX7_init 47 = .ok (.iload_n 1, 1) := by decide +kernel
theorem dX7_init_48 : decode cX7_init 48 = .ok (.iconst 3, 1) := by decide +kernel
theorem dX7_init_49 : decode cX7_init 49 = .ok (.if_icmp .ge 22, 3) := by decide +kernel
theorem dX7_init_52 : decode cX7_init 52 = .ok (.aload_n 0, 1) := by decide +kernel
theorem dX7_init_53 : decode cX7_init 53 = .ok (.getfield 30, 3) := by decide +kernel
theorem dX7_init_56 : decode cX7_init 56 = .ok (.iload_n 1, 1) := by decide +kernel
theorem dX7_init_57 : decode cX7_init 57 = .ok (.new 23, 3) := by decide +kernel
theorem dX7_init_60 : decode cX7_init 60 = .ok (.dup, 1) := by decide +kernel
theorem dX7_init_61 : decode cX7_init 61 = .ok (.invokespecial 25, 3) := by decide +kernel
theorem dX7_init_64 : decode cX7_init 64 = .ok (.aastore, 1) := by decide +kernel
theorem dX7_init_65 : decode cX7_init 65 = .ok (.iinc 1 1, 3) := by decide +kernel
theorem dX7_init_68 : decode cX7_init 68 = .ok (.goto (-21), 3) := by decide +kernel
theorem dX7_init_71 : decode cX7_init 71 = .ok (.aload_n 0, 1) := by decide +kernel
theorem dX7_init_72 : decode cX7_init 72 = .ok (.iconst 3, 1) := by decide +kernel
theorem dX7_init_73 : decode cX7_init 73 = .ok (.newarray .boolean, 2) := by decide +kernel
theorem dX7_init_75 : decode cX7_init 75 = .ok (.putfield 34, 3) := by decide +kernel
theorem dX7_init_78 : decode cX7_init 78 = .ok (.aload_n 0, 1) := by decide +kernel
theorem dX7_init_79 : decode cX7_init 79 = .ok (.new 38, 3) := by decide +kernel
theorem dX7_init_82 : decode cX7_init 82 = .ok (.dup, 1) := by decide +kernel
theorem dX7_init_83 : decode cX7_init 83 = .ok (.invokespecial 40, 3) := by decide +kernel
theorem dX7_init_86 : decode cX7_init 86 = .ok (.putfield 41, 3) := by decide +kernel
theorem dX7_init_89 : decode cX7_init 89 = .ok (.aload_n 0, 1) := by decide +kernel
theorem dX7_init_90 : decode cX7_init 90 = .ok (.new 45, 3) := by decide +kernel
theorem dX7_init_93 : decode cX7_init 93 = .ok (.dup, 1) := by decide +kernel
theorem dX7_init_94 : decode cX7_init 94 = .ok (.invokespecial 47, 3) := by decide +kernel
theorem dX7_init_97 : decode cX7_init 97 = .ok (.putfield 48, 3) := by decide +kernel
theorem dX7_init_100 : decode cX7_init 100 = .ok (.aload_n 0, 1) := by decide +kernel
theorem dX7_init_101 : decode cX7_init 101 = .ok (.new 52, 3) := by decide +kernel
theorem dX7_init_104 : decode cX7_init 104 = .ok (.dup, 1) := by decide +kernel
theorem dX7_init_105 : decode cX7_init 105 = .ok (.invokespecial 54, 3) := by decide +kernel
theorem dX7_init_108 : decode cX7_init 108 = .ok (.putfield 55, 3) := by decide +kernel
theorem dX7_init_111 : decode cX7_init 111 = .ok (.aload_n 0, 1) := by decide +kernel
theorem dX7_init_112 : decode cX7_init 112 = .ok (.sipush 512, 3) := by decide +kernel
theorem dX7_init_115 : decode cX7_init 115 = .ok (.newarray .int, 2) := by decide +kernel
theorem dX7_init_117 : decode cX7_init 117 = .ok (.putfield 59, 3) := by decide +kernel
theorem dX7_init_120 : decode cX7_init 120 = .ok (.aload_n 0, 1) := by decide +kernel
theorem dX7_init_121 : decode cX7_init 121 = .ok (.getfield 59, 3) := by decide +kernel
theorem dX7_init_124 : decode cX7_init 124 = .ok (.iconst (-1), 1) := by decide +kernel
theorem dX7_init_125 : decode cX7_init 125 = .ok (.invokestatic 63, 3) := by decide +kernel
theorem dX7_init_128 : decode cX7_init 128 = .ok (.aload_n 0, 1) := by decide +kernel
theorem dX7_init_129 : decode cX7_init 129 = .ok (.invokevirtual 69, 3) := by decide +kernel
theorem dX7_init_132 : decode cX7_init 132 = .ok (.return_, 1) := by decide +kernel
theorem dX7_feed_0 : decode cX7_feed 0 = .ok (.iload_n 3, 1) := by decide +kernel
theorem dX7_feed_1 : decode cX7_feed 1 = .ok (.iconst 1, 1) := by decide +kernel
theorem dX7_feed_2 : decode cX7_feed 2 = .ok (.if_icmp .lt 9, 3) := by decide +kernel
theorem dX7_feed_5 : decode cX7_feed 5 = .ok (.iload_n 3, 1) := by decide +kernel
theorem dX7_feed_6 : decode cX7_feed 6 = .ok (.bipush 8, 2) := by decide +kernel
theorem dX7_feed_8 : decode cX7_feed 8 = .ok (.if_icmp .le 5, 3) := by decide +kernel
theorem dX7_feed_11 : decode cX7_feed 11 = .ok (.iconst 0, 1) := by decide +kernel
theorem dX7_feed_12 : decode cX7_feed 12 = .ok (.ireturn, 1) := by decide +kernel
theorem dX7_feed_13 : decode cX7_feed 13 = .ok (.iload_n 3, 1) := by decide +kernel
theorem dX7_feed_14 : decode cX7_feed 14 = .ok (.iconst 1, 1) := by decide +kernel
theorem dX7_feed_15 : decode cX7_feed 15 = .ok (.isub, 1) := by decide +kernel
theorem dX7_feed_16 : decode cX7_feed 16 = .ok (.istore 4, 2) := by decide +kernel
theorem dX7_feed_18 : decode cX7_feed 18 = .ok (.iload 4, 2) := by decide +kernel
theorem dX7_feed_20 : decode cX7_feed 20 = .ok (.ifCond .lt 25, 3) := by decide +kernel
theorem dX7_feed_23 : decode cX7_feed 23 = .ok (.aload_n 0, 1) := by decide +kernel
theorem dX7_feed_24 : decode cX7_feed 24 = .ok (.lload_n 1, 1) := by decide +kernel
theorem dX7_feed_25 : decode cX7_feed 25 = .ok (.bipush 8, 2) := by decide +kernel
theorem dX7_feed_27 : decode cX7_feed 27 = .ok (.iload 4, 2) := by decide +kernel
theorem dX7_feed_29 : decode cX7_feed 29 = .ok (.imul, 1) := by decide +kernel
theorem dX7_feed_30 : decode cX7_feed 30 = .ok (.lushr, 1) := by decide +kernel
theorem dX7_feed_31 : decode cX7_feed 31 = .ok (.l2i, 1) := by decide +kernel
theorem dX7_feed_32 : decode cX7_feed 32 = .ok (.sipush 255, 3) := by decide +kernel
theorem dX7_feed_35 : decode cX7_feed 35 = .ok (.iand, 1) := by decide +kernel
theorem dX7_feed_36 : decode cX7_feed 36 = .ok (.invokevirtual 72, 3) := by decide +kernel
theorem dX7_feed_39 : decode cX7_feed 39 = .ok (.iinc 4 (-1), 3) := by decide +kernel
theorem dX7_feed_42 : decode cX7_feed 42 = .ok (.goto (-24), 3) := by decide +kernel
theorem dX7_feed_45 : decode cX7_feed 45 = .ok (.iconst 1, 1) := by decide +kernel
theorem dX7_feed_46 : decode cX7_feed 46 = .ok (.ireturn, 1) := by decide +kernel
theorem dX7_advance_0 : decode cX7_advance 0 = .ok (.iload_n 1, 1) := by decide +kernel
theorem dX7_advance_1 : decode cX7_advance 1 = .ok (.ifCond .lt 31, 3) := by decide +kernel
theorem dX7_advance_4 : decode cX7_advance 4 = .ok (.iload_n 1, 1) := by decide +kernel
theorem dX7_advance_5 : decode cX7_advance 5 = .ok (.iconst 1, 1) := by decide +kernel
theorem dX7_advance_6 : decode cX7_advance 6 = .ok (.if_icmp .gt 26, 3) := by decide +kernel
theorem dX7_advance_9 : decode cX7_advance 9 = .ok (.iload_n 2, 1) := by decide +kernel
theorem dX7_advance_10 : decode cX7_advance 10 = .ok (.ifCond .lt 22, 3) := by decide +kernel
theorem dX7_advance_13 : decode cX7_advance 13 = .ok (.iload_n 2, 1) := by decide +kernel
theorem dX7_advance_14 : decode cX7_advance 14 = .ok (.sipush 256, 3) := by decide +kernel
theorem dX7_advance_17 : decode cX7_advance 17 = .ok (.if_icmp .ge 15, 3) := by decide +kernel
theorem dX7_advance_20 : decode cX7_advance 20 = .ok (.iload_n 3, 1) := by decide +kernel
theorem dX7_advance_21 : decode cX7_advance 21 = .ok (.iconst (-1), 1) := by decide +kernel
theorem dX7_advance_22 : decode cX7_advance 22 = .ok (.if_icmp .lt 10, 3) := by decide +kernel
theorem dX7_advance_25 : decode cX7_advance 25 = .ok (.iload_n 3, 1) := by decide +kernel
theorem dX7_advance_26 : decode cX7_advance 26 = .ok (.sipush 20000, 3) := by decide +kernel
theorem dX7_advance_29 : decode cX7_advance 29 = .ok (.if_icmp .le 5, 3) := by decide +kernel
theorem dX7_advance_32 : decode cX7_advance 32 = .ok (.iconst 0, 1) := by decide +kernel
theorem dX7_advance_33 : decode cX7_advance 33 = .ok (.ireturn, 1) := by decide +kernel
theorem dX7_advance_34 : decode cX7_advance 34 = .ok (.aload_n 0, 1) := by decide +kernel
theorem dX7_advance_35 : decode cX7_advance 35 = .ok (.getfield 59, 3) := by decide +kernel
theorem dX7_advance_38 : decode cX7_advance 38 = .ok (.iload_n 1, 1) := by decide +kernel
theorem dX7_advance_39 : decode cX7_advance 39 = .ok (.sipush 256, 3) := by decide +kernel
theorem dX7_advance_42 : decode cX7_advance 42 = .ok (.imul, 1) := by decide +kernel
theorem dX7_advance_43 : decode cX7_advance 43 = .ok (.iload_n 2, 1) := by decide +kernel
theorem dX7_advance_44 : decode cX7_advance 44 = .ok (.iadd, 1) := by decide +kernel
theorem dX7_advance_45 : decode cX7_advance 45 = .ok (.iload_n 3, 1) := by decide +kernel
theorem dX7_advance_46 : decode cX7_advance 46 = .ok (.iastore, 1) := by decide +kernel
theorem dX7_advance_47 : decode cX7_advance 47 = .ok (.iconst 1, 1) := by decide +kernel
theorem dX7_advance_48 : decode cX7_advance 48 = .ok (.ireturn, 1) := by decide +kernel
theorem dX7_due_0 : decode cX7_due 0 = .ok (.aload_n 0, 1) := by decide +kernel
theorem dX7_due_1 : decode cX7_due 1 = .ok (.getfield 41, 3) := by decide +kernel
theorem dX7_due_4 : decode cX7_due 4 = .ok (.iconst 1, 1) := by decide +kernel
theorem dX7_due_5 : decode cX7_due 5 = .ok (.putfield 76, 3) := by decide +kernel
theorem dX7_due_8 : decode cX7_due 8 = .ok (.return_, 1) := by decide +kernel
theorem dX7_move_0 : decode cX7_move 0 = .ok (.aload_n 0, 1) := by decide +kernel
theorem dX7_move_1 : decode cX7_move 1 = .ok (.iload_n 1, 1) := by decide +kernel
theorem dX7_move_2 : decode cX7_move 2 = .ok (.i2l, 1) := by decide +kernel
theorem dX7_move_3 : decode cX7_move 3 = .ok (.invokevirtual 80, 3) := by decide +kernel
theorem dX7_move_6 : decode cX7_move 6 = .ok (.aload_n 0, 1) := by decide +kernel
theorem dX7_move_7 : decode cX7_move 7 = .ok (.iload_n 2, 1) := by decide +kernel
theorem dX7_move_8 : decode cX7_move 8 = .ok (.i2l, 1) := by decide +kernel
theorem dX7_move_9 : decode cX7_move 9 = .ok (.invokevirtual 84, 3) := by decide +kernel
theorem dX7_move_12 : decode cX7_move 12 = .ok (.return_, 1) := by decide +kernel
theorem dX7_keep_0 : decode cX7_keep 0 = .ok (.iload_n 1, 1) := by decide +kernel
theorem dX7_keep_1 : decode cX7_keep 1 = .ok (.ifCond .lt 8, 3) := by decide +kernel
theorem dX7_keep_4 : decode cX7_keep 4 = .ok (.iload_n 1, 1) := by decide +kernel
theorem dX7_keep_5 : decode cX7_keep 5 = .ok (.iconst 3, 1) := by decide +kernel
theorem dX7_keep_6 : decode cX7_keep 6 = .ok (.if_icmp .lt 5, 3) := by decide +kernel
theorem dX7_keep_9 : decode cX7_keep 9 = .ok (.iconst 0, 1) := by decide +kernel
theorem dX7_keep_10 : decode cX7_keep 10 = .ok (.ireturn, 1) := by decide +kernel
theorem dX7_keep_11 : decode cX7_keep 11 = .ok (.aload_n 0, 1) := by decide +kernel
theorem dX7_keep_12 : decode cX7_keep 12 = .ok (.getfield 30, 3) := by decide +kernel
theorem dX7_keep_15 : decode cX7_keep 15 = .ok (.iload_n 1, 1) := by decide +kernel
theorem dX7_keep_16 : decode cX7_keep 16 = .ok (.aaload, 1) := by decide +kernel
theorem dX7_keep_17 : decode cX7_keep 17 = .ok (.aload_n 0, 1) := by decide +kernel
theorem dX7_keep_18 : decode cX7_keep 18 = .ok (.getfield 26, 3) := by decide +kernel
theorem dX7_keep_21 : decode cX7_keep 21 = .ok (.invokevirtual 87, 3) := by decide +kernel
theorem dX7_keep_24 : decode cX7_keep 24 = .ok (.aload_n 0, 1) := by decide +kernel
theorem dX7_keep_25 : decode cX7_keep 25 = .ok (.getfield 34, 3) := by decide +kernel
theorem dX7_keep_28 : decode cX7_keep 28 = .ok (.iload_n 1, 1) := by decide +kernel
theorem dX7_keep_29 : decode cX7_keep 29 = .ok (.iconst 1, 1) := by decide +kernel
theorem dX7_keep_30 : decode cX7_keep 30 = .ok (.bastore, 1) := by decide +kernel
theorem dX7_keep_31 : decode cX7_keep 31 = .ok (.iconst 1, 1) := by decide +kernel
theorem dX7_keep_32 : decode cX7_keep 32 = .ok (.ireturn, 1) := by decide +kernel
theorem dX7_bring_0 : decode cX7_bring 0 = .ok (.iload_n 1, 1) := by decide +kernel
theorem dX7_bring_1 : decode cX7_bring 1 = .ok (.ifCond .lt 17, 3) := by decide +kernel
theorem dX7_bring_4 : decode cX7_bring 4 = .ok (.iload_n 1, 1) := by decide +kernel
theorem dX7_bring_5 : decode cX7_bring 5 = .ok (.iconst 3, 1) := by decide +kernel
theorem dX7_bring_6 : decode cX7_bring 6 = .ok (.if_icmp .ge 12, 3) := by decide +kernel
theorem dX7_bring_9 : decode cX7_bring 9 = .ok (.aload_n 0, 1) := by decide +kernel
theorem dX7_bring_10 : decode cX7_bring 10 = .ok (.getfield 34, 3) := by decide +kernel
theorem dX7_bring_13 : decode cX7_bring 13 = .ok (.iload_n 1, 1) := by decide +kernel
theorem dX7_bring_14 : decode cX7_bring 14 = .ok (.baload, 1) := by decide +kernel
theorem dX7_bring_15 : decode cX7_bring 15 = .ok (.ifCond .ne 5, 3) := by decide +kernel
theorem dX7_bring_18 : decode cX7_bring 18 = .ok (.iconst 0, 1) := by decide +kernel
theorem dX7_bring_19 : decode cX7_bring 19 = .ok (.ireturn, 1) := by decide +kernel
theorem dX7_bring_20 : decode cX7_bring 20 = .ok (.aload_n 0, 1) := by decide +kernel
theorem dX7_bring_21 : decode cX7_bring 21 = .ok (.getfield 26, 3) := by decide +kernel
theorem dX7_bring_24 : decode cX7_bring 24 = .ok (.aload_n 0, 1) := by decide +kernel
theorem dX7_bring_25 : decode cX7_bring 25 = .ok (.getfield 30, 3) := by decide +kernel
theorem dX7_bring_28 : decode cX7_bring 28 = .ok (.iload_n 1, 1) := by decide +kernel
theorem dX7_bring_29 : decode cX7_bring 29 = .ok (.aaload, 1) := by decide +kernel
theorem dX7_bring_30 : decode cX7_bring 30 = .ok (.invokevirtual 87, 3) := by decide +kernel
theorem dX7_bring_33 : decode cX7_bring 33 = .ok (.aload_n 0, 1) := by decide +kernel
theorem dX7_bring_34 : decode cX7_bring 34 = .ok (.getfield 26, 3) := by decide +kernel
theorem dX7_bring_37 : decode cX7_bring 37 = .ok (.aload_n 0, 1) := by decide +kernel
theorem dX7_bring_38 : decode cX7_bring 38 = .ok (.getfield 26, 3) := by decide +kernel
theorem dX7_bring_41 : decode cX7_bring 41 = .ok (.getfield 91, 3) := by decide +kernel
theorem dX7_bring_44 : decode cX7_bring 44 = .ok (.i2l, 1) := by decide +kernel
theorem dX7_bring_45 : decode cX7_bring 45 = .ok (.iconst 0, 1) := by decide +kernel
theorem dX7_bring_46 : decode cX7_bring 46 = .ok (.aload_n 0, 1) := by decide +kernel
theorem dX7_bring_47 : decode cX7_bring 47 = .ok (.getfield 19, 3) := by decide +kernel
theorem dX7_bring_50 : decode cX7_bring 50 = .ok (.getfield 95, 3) := by decide +kernel
theorem dX7_bring_53 : decode cX7_bring 53 = .ok (.invokestatic 98, 3) := by decide +kernel
theorem dX7_bring_56 : decode cX7_bring 56 = .ok (.putfield 91, 3) := by decide +kernel
theorem dX7_bring_59 : decode cX7_bring 59 = .ok (.aload_n 0, 1) := by decide +kernel
theorem dX7_bring_60 : decode cX7_bring 60 = .ok (.getfield 26, 3) := by decide +kernel
theorem dX7_bring_63 : decode cX7_bring 63 = .ok (.aload_n 0, 1) := by decide +kernel
theorem dX7_bring_64 : decode cX7_bring 64 = .ok (.getfield 26, 3) := by decide +kernel
theorem dX7_bring_67 : decode cX7_bring 67 = .ok (.getfield 102, 3) := by decide +kernel
theorem dX7_bring_70 : decode cX7_bring 70 = .ok (.i2l, 1) := by decide +kernel
theorem dX7_bring_71 : decode cX7_bring 71 = .ok (.iconst 0, 1) := by decide +kernel
theorem dX7_bring_72 : decode cX7_bring 72 = .ok (.aload_n 0, 1) := by decide +kernel
theorem dX7_bring_73 : decode cX7_bring 73 = .ok (.getfield 19, 3) := by decide +kernel
theorem dX7_bring_76 : decode cX7_bring 76 = .ok (.getfield 95, 3) := by decide +kernel
theorem dX7_bring_79 : decode cX7_bring 79 = .ok (.invokestatic 98, 3) := by decide +kernel
theorem dX7_bring_82 : decode cX7_bring 82 = .ok (.putfield 102, 3) := by decide +kernel
theorem dX7_bring_85 : decode cX7_bring 85 = .ok (.aload_n 0, 1) := by decide +kernel
theorem dX7_bring_86 : decode cX7_bring 86 = .ok (.aload_n 0, 1) := by decide +kernel
theorem dX7_bring_87 : decode cX7_bring 87 = .ok (.getfield 26, 3) := by decide +kernel
theorem dX7_bring_90 : decode cX7_bring 90 = .ok (.getfield 105, 3) := by decide +kernel
theorem dX7_bring_93 : decode cX7_bring 93 = .ok (.i2l, 1) := by decide +kernel
theorem dX7_bring_94 : decode cX7_bring 94 = .ok (.invokevirtual 80, 3) := by decide +kernel
theorem dX7_bring_97 : decode cX7_bring 97 = .ok (.aload_n 0, 1) := by decide +kernel
theorem dX7_bring_98 : decode cX7_bring 98 = .ok (.aload_n 0, 1) := by decide +kernel
theorem dX7_bring_99 : decode cX7_bring 99 = .ok (.getfield 26, 3) := by decide +kernel
theorem dX7_bring_102 : decode cX7_bring 102 = .ok (.getfield 108, 3) := by decide +kernel
theorem dX7_bring_105 : decode cX7_bring 105 = .ok (.i2l, 1) := by decide +kernel
theorem dX7_bring_106 : decode cX7_bring 106 = .ok (.invokevirtual 84, 3) := by decide +kernel
theorem dX7_bring_109 : decode cX7_bring 109 = .ok (.iconst 1, 1) := by decide +kernel
theorem dX7_bring_110 : decode cX7_bring 110 = .ok (.ireturn, 1) := by decide +kernel
theorem dX7_glyph_0 : decode cX7_glyph 0 = .ok (.iload_n 1, 1) := by decide +kernel
theorem dX7_glyph_1 : decode cX7_glyph 1 = .ok (.ifCond .lt 23, 3) := by decide +kernel
theorem dX7_glyph_4 : decode cX7_glyph 4 = .ok (.iload_n 1, 1) := by decide +kernel
theorem dX7_glyph_5 : decode cX7_glyph 5 = .ok (.aload_n 0, 1) := by decide +kernel
theorem dX7_glyph_6 : decode cX7_glyph 6 = .ok (.getfield 41, 3) := by decide +kernel
theorem dX7_glyph_9 : decode cX7_glyph 9 = .ok (.getfield 111, 3) := by decide +kernel
theorem dX7_glyph_12 : decode cX7_glyph 12 = .ok (.if_icmp .ge 12, 3) := by decide +kernel
theorem dX7_glyph_15 : decode cX7_glyph 15 = .ok (.iload_n 2, 1) := by decide +kernel
theorem dX7_glyph_16 : decode cX7_glyph 16 = .ok (.ifCond .lt 8, 3) := by decide +kernel
theorem dX7_glyph_19 : decode cX7_glyph 19 = .ok (.iload_n 2, 1) := by decide +kernel
theorem dX7_glyph_20 : decode cX7_glyph 20 = .ok (.iconst 3, 1) := by decide +kernel
theorem dX7_glyph_21 : decode cX7_glyph 21 = .ok (.if_icmp .le 11, 3) := by decide +kernel
theorem dX7_glyph_24 : decode cX7_glyph 24 = .ok (.new 114, 3) := by decide +kernel
theorem dX7_glyph_27 : decode cX7_glyph 27 = .ok (.dup, 1) := by decide +kernel
theorem dX7_glyph_28 : decode cX7_glyph 28 = .ok (.invokespecial 116, 3) := by decide +kernel
theorem dX7_glyph_31 : decode cX7_glyph 31 = .ok (.athrow, 1) := by decide +kernel
theorem dX7_glyph_32 : decode cX7_glyph 32 = .ok (.aload_n 0, 1) := by decide +kernel
theorem dX7_glyph_33 : decode cX7_glyph 33 = .ok (.getfield 41, 3) := by decide +kernel
theorem dX7_glyph_36 : decode cX7_glyph 36 = .ok (.iload_n 1, 1) := by decide +kernel
theorem dX7_glyph_37 : decode cX7_glyph 37 = .ok (.iload_n 2, 1) := by decide +kernel
theorem dX7_glyph_38 : decode cX7_glyph 38 = .ok (.invokevirtual 117, 3) := by decide +kernel
theorem dX7_glyph_41 : decode cX7_glyph 41 = .ok (.ireturn, 1) := by decide +kernel
theorem dX7_page_0 : decode cX7_page 0 = .ok (.aload_n 0, 1) := by decide +kernel
theorem dX7_page_1 : decode cX7_page 1 = .ok (.getfield 48, 3) := by decide +kernel
theorem dX7_page_4 : decode cX7_page 4 = .ok (.iload_n 1, 1) := by decide +kernel
theorem dX7_page_5 : decode cX7_page 5 = .ok (.invokevirtual 121, 3) := by decide +kernel
theorem dX7_page_8 : decode cX7_page 8 = .ok (.ifCond .eq 12, 3) := by decide +kernel
theorem dX7_page_11 : decode cX7_page 11 = .ok (.iload_n 2, 1) := by decide +kernel
theorem dX7_page_12 : decode cX7_page 12 = .ok (.ifCond .lt 8, 3) := by decide +kernel
theorem dX7_page_15 : decode cX7_page 15 = .ok (.iload_n 2, 1) := by decide +kernel
theorem dX7_page_16 : decode cX7_page 16 = .ok (.iconst 3, 1) := by decide +kernel
theorem dX7_page_17 : decode cX7_page 17 = .ok (.if_icmp .le 11, 3) := by decide +kernel
theorem dX7_page_20 : decode cX7_page 20 = .ok (.new 114, 3) := by decide +kernel
theorem dX7_page_23 : decode cX7_page 23 = .ok (.dup, 1) := by decide +kernel
theorem dX7_page_24 : decode cX7_page 24 = .ok (.invokespecial 116, 3) := by decide +kernel
theorem dX7_page_27 : decode cX7_page 27 = .ok (.athrow, 1) := by decide +kernel
theorem dX7_page_28 : decode cX7_page 28 = .ok (.aload_n 0, 1) := by decide +kernel
theorem dX7_page_29 : decode cX7_page 29 = .ok (.getfield 48, 3) := by decide +kernel
theorem dX7_page_32 : decode cX7_page 32 = .ok (.iload_n 1, 1) := by decide +kernel
theorem dX7_page_33 : decode cX7_page 33 = .ok (.iload_n 2, 1) := by decide +kernel
theorem dX7_page_34 : decode cX7_page 34 = .ok (.invokevirtual 125, 3) := by decide +kernel
theorem dX7_page_37 : decode cX7_page 37 = .ok (.ireturn, 1) := by decide +kernel
theorem dX7_other_0 : decode cX7_other 0 = .ok (.aload_n 0, 1) := by decide +kernel
theorem dX7_other_1 : decode cX7_other 1 = .ok (.getfield 55, 3) := by decide +kernel
theorem dX7_other_4 : decode cX7_other 4 = .ok (.getfield 126, 3) := by decide +kernel
theorem dX7_other_7 : decode cX7_other 7 = .ok (.ifCond .ne 11, 3) := by decide +kernel
theorem dX7_other_10 : decode cX7_other 10 = .ok (.new 127, 3) := by decide +kernel
theorem dX7_other_13 : decode cX7_other 13 = .ok (.dup, 1) := by decide +kernel
theorem dX7_other_14 : decode cX7_other 14 = .ok (.invokespecial 129, 3) := by decide +kernel
theorem dX7_other_17 : decode cX7_other 17 = .ok (.athrow, 1) := by decide +kernel
theorem dX7_other_18 : decode cX7_other 18 = .ok (.iload_n 1, 1) := by decide +kernel
theorem dX7_other_19 : decode cX7_other 19 = .ok (.ifCond .lt 9, 3) := by decide +kernel
theorem dX7_other_22 : decode cX7_other 22 = .ok (.iload_n 1, 1) := by decide +kernel
theorem dX7_other_23 : decode cX7_other 23 = .ok (.bipush 6, 2) := by decide +kernel
theorem dX7_other_25 : decode cX7_other 25 = .ok (.if_icmp .le 11, 3) := by decide +kernel
theorem dX7_other_28 : decode cX7_other 28 = .ok (.new 114, 3) := by decide +kernel
theorem dX7_other_31 : decode cX7_other 31 = .ok (.dup, 1) := by decide +kernel
theorem dX7_other_32 : decode cX7_other 32 = .ok (.invokespecial 116, 3) := by decide +kernel
theorem dX7_other_35 : decode cX7_other 35 = .ok (.athrow, 1) := by decide +kernel
theorem dX7_other_36 : decode cX7_other 36 = .ok (.aload_n 0, 1) := by decide +kernel
theorem dX7_other_37 : decode cX7_other 37 = .ok (.getfield 55, 3) := by decide +kernel
theorem dX7_other_40 : decode cX7_other 40 = .ok (.iload_n 1, 1) := by decide +kernel
theorem dX7_other_41 : decode cX7_other 41 = .ok (.invokevirtual 130, 3) := by decide +kernel
theorem dX7_other_44 : decode cX7_other 44 = .ok (.ireturn, 1) := by decide +kernel
theorem dX7_data_0 : decode cX7_data 0 = .ok (.aload_n 0, 1) := by decide +kernel
theorem dX7_data_1 : decode cX7_data 1 = .ok (.getfield 55, 3) := by decide +kernel
theorem dX7_data_4 : decode cX7_data 4 = .ok (.getfield 126, 3) := by decide +kernel
theorem dX7_data_7 : decode cX7_data 7 = .ok (.ifCond .ne 11, 3) := by decide +kernel
theorem dX7_data_10 : decode cX7_data 10 = .ok (.new 127, 3) := by decide +kernel
theorem dX7_data_13 : decode cX7_data 13 = .ok (.dup, 1) := by decide +kernel
theorem dX7_data_14 : decode cX7_data 14 = .ok (.invokespecial 129, 3) := by decide +kernel
theorem dX7_data_17 : decode cX7_data 17 = .ok (.athrow, 1) := by decide +kernel
theorem dX7_data_18 : decode cX7_data 18 = .ok (.aload_n 0, 1) := by decide +kernel
theorem dX7_data_19 : decode cX7_data 19 = .ok (.getfield 55, 3) := by decide +kernel
theorem dX7_data_22 : decode cX7_data 22 = .ok (.iload_n 1, 1) := by decide +kernel
theorem dX7_data_23 : decode cX7_data 23 = .ok (.invokevirtual 134, 3) := by decide +kernel
theorem dX7_data_26 : decode cX7_data 26 = .ok (.lreturn, 1) := by decide +kernel
theorem dX7_take_0 : decode cX7_take 0 = .ok (.aload_n 0, 1) := by decide +kernel
theorem dX7_take_1 : decode cX7_take 1 = .ok (.getfield 55, 3) := by decide +kernel
theorem dX7_take_4 : decode cX7_take 4 = .ok (.invokevirtual 138, 3) := by decide +kernel
theorem dX7_take_7 : decode cX7_take 7 = .ok (.ireturn, 1) := by decide +kernel
theorem dX7_place_0 : decode cX7_place 0 = .ok (.iload_n 1, 1) := by decide +kernel
theorem dX7_place_1 : decode cX7_place 1 = .ok (.ifCond .lt 14, 3) := by decide +kernel
theorem dX7_place_4 : decode cX7_place 4 = .ok (.iload_n 1, 1) := by decide +kernel
theorem dX7_place_5 : decode cX7_place 5 = .ok (.aload_n 0, 1) := by decide +kernel
theorem dX7_place_6 : decode cX7_place 6 = .ok (.getfield 26, 3) := by decide +kernel
theorem dX7_place_9 : decode cX7_place 9 = .ok (.getfield 142, 3) := by decide +kernel
theorem dX7_place_12 : decode cX7_place 12 = .ok (.if_icmp .lt 11, 3) := by decide +kernel
theorem dX7_place_15 : decode cX7_place 15 = .ok (.new 114, 3) := by decide +kernel
theorem dX7_place_18 : decode cX7_place 18 = .ok (.dup, 1) := by decide +kernel
theorem dX7_place_19 : decode cX7_place 19 = .ok (.invokespecial 116, 3) := by decide +kernel
theorem dX7_place_22 : decode cX7_place 22 = .ok (.athrow, 1) := by decide +kernel
theorem dX7_place_23 : decode cX7_place 23 = .ok (.iload_n 2, 1) := by decide +kernel
theorem dX7_place_24 : decode cX7_place 24 = .ok (.ifCond .eq 15, 3) := by decide +kernel
theorem dX7_place_27 : decode cX7_place 27 = .ok (.aload_n 0, 1) := by decide +kernel
theorem dX7_place_28 : decode cX7_place 28 = .ok (.getfield 26, 3) := by decide +kernel
theorem dX7_place_31 : decode cX7_place 31 = .ok (.getfield 145, 3) := by decide +kernel
theorem dX7_place_34 : decode cX7_place 34 = .ok (.iload_n 1, 1) := by decide +kernel
theorem dX7_place_35 : decode cX7_place 35 = .ok (.iaload, 1) := by decide +kernel
theorem dX7_place_36 : decode cX7_place 36 = .ok (.goto 12, 3) := by decide +kernel
theorem dX7_place_39 : decode cX7_place 39 = .ok (.aload_n 0, 1) := by decide +kernel
theorem dX7_place_40 : decode cX7_place 40 = .ok (.getfield 26, 3) := by decide +kernel
theorem dX7_place_43 : decode cX7_place 43 = .ok (.getfield 148, 3) := by decide +kernel
theorem dX7_place_46 : decode cX7_place 46 = .ok (.iload_n 1, 1) := by decide +kernel
theorem dX7_place_47 : decode cX7_place 47 = .ok (.iaload, 1) := by decide +kernel
theorem dX7_place_48 : decode cX7_place 48 = .ok (.ireturn, 1) := by decide +kernel
theorem dX7_look_0 : decode cX7_look 0 = .ok (.iload_n 1, 1) := by decide +kernel
theorem dX7_look_1 : decode cX7_look 1 = .ok (.tableswitch 352 0 24 #[115, 123, 131, 139, 147, 155, 163, 171, 179, 187, 195, 203, 211, 227, 243, 251, 259, 267, 275, 283, 299, 307, 315, 320, 336], 115) := by decide +kernel
theorem dX7_look_116 : decode cX7_look 116 = .ok (.aload_n 0, 1) := by decide +kernel
theorem dX7_look_117 : decode cX7_look 117 = .ok (.getfield 26, 3) := by decide +kernel
theorem dX7_look_120 : decode cX7_look 120 = .ok (.getfield 105, 3) := by decide +kernel
theorem dX7_look_123 : decode cX7_look 123 = .ok (.ireturn, 1) := by decide +kernel
theorem dX7_look_124 : decode cX7_look 124 = .ok (.aload_n 0, 1) := by decide +kernel
theorem dX7_look_125 : decode cX7_look 125 = .ok (.getfield 26, 3) := by decide +kernel
theorem dX7_look_128 : decode cX7_look 128 = .ok (.getfield 108, 3) := by decide +kernel
theorem dX7_look_131 : decode cX7_look 131 = .ok (.ireturn, 1) := by decide +kernel
theorem dX7_look_132 : decode cX7_look 132 = .ok (.aload_n 0, 1) := by decide +kernel
theorem dX7_look_133 : decode cX7_look 133 = .ok (.getfield 26, 3) := by decide +kernel
theorem dX7_look_136 : decode cX7_look 136 = .ok (.getfield 91, 3) := by decide +kernel
theorem dX7_look_139 : decode cX7_look 139 = .ok (.ireturn, 1) := by decide +kernel
theorem dX7_look_140 : decode cX7_look 140 = .ok (.aload_n 0, 1) := by decide +kernel
theorem dX7_look_141 : decode cX7_look 141 = .ok (.getfield 26, 3) := by decide +kernel
theorem dX7_look_144 : decode cX7_look 144 = .ok (.getfield 102, 3) := by decide +kernel
theorem dX7_look_147 : decode cX7_look 147 = .ok (.ireturn, 1) := by decide +kernel
theorem dX7_look_148 : decode cX7_look 148 = .ok (.aload_n 0, 1) := by decide +kernel
theorem dX7_look_149 : decode cX7_look 149 = .ok (.getfield 26, 3) := by decide +kernel
theorem dX7_look_152 : decode cX7_look 152 = .ok (.getfield 151, 3) := by decide +kernel
theorem dX7_look_155 : decode cX7_look 155 = .ok (.ireturn, 1) := by decide +kernel
theorem dX7_look_156 : decode cX7_look 156 = .ok (.aload_n 0, 1) := by decide +kernel
theorem dX7_look_157 : decode cX7_look 157 = .ok (.getfield 26, 3) := by decide +kernel
theorem dX7_look_160 : decode cX7_look 160 = .ok (.getfield 154, 3) := by decide +kernel
theorem dX7_look_163 : decode cX7_look 163 = .ok (.ireturn, 1) := by decide +kernel
theorem dX7_look_164 : decode cX7_look 164 = .ok (.aload_n 0, 1) := by decide +kernel
theorem dX7_look_165 : decode cX7_look 165 = .ok (.getfield 26, 3) := by decide +kernel
theorem dX7_look_168 : decode cX7_look 168 = .ok (.getfield 157, 3) := by decide +kernel
theorem dX7_look_171 : decode cX7_look 171 = .ok (.ireturn, 1) := by decide +kernel
theorem dX7_look_172 : decode cX7_look 172 = .ok (.aload_n 0, 1) := by decide +kernel
theorem dX7_look_173 : decode cX7_look 173 = .ok (.getfield 26, 3) := by decide +kernel
theorem dX7_look_176 : decode cX7_look 176 = .ok (.getfield 160, 3) := by decide +kernel
theorem dX7_look_179 : decode cX7_look 179 = .ok (.ireturn, 1) := by decide +kernel
theorem dX7_look_180 : decode cX7_look 180 = .ok (.aload_n 0, 1) := by decide +kernel
theorem dX7_look_181 : decode cX7_look 181 = .ok (.getfield 19, 3) := by decide +kernel
theorem dX7_look_184 : decode cX7_look 184 = .ok (.getfield 95, 3) := by decide +kernel
theorem dX7_look_187 : decode cX7_look 187 = .ok (.ireturn, 1) := by decide +kernel
theorem dX7_look_188 : decode cX7_look 188 = .ok (.aload_n 0, 1) := by decide +kernel
theorem dX7_look_189 : decode cX7_look 189 = .ok (.getfield 19, 3) := by decide +kernel
theorem dX7_look_192 : decode cX7_look 192 = .ok (.getfield 163, 3) := by decide +kernel
theorem dX7_look_195 : decode cX7_look 195 = .ok (.ireturn, 1) := by decide +kernel
theorem dX7_look_196 : decode cX7_look 196 = .ok (.aload_n 0, 1) := by decide +kernel
theorem dX7_look_197 : decode cX7_look 197 = .ok (.getfield 19, 3) := by decide +kernel
theorem dX7_look_200 : decode cX7_look 200 = .ok (.getfield 166, 3) := by decide +kernel
theorem dX7_look_203 : decode cX7_look 203 = .ok (.ireturn, 1) := by decide +kernel
theorem dX7_look_204 : decode cX7_look 204 = .ok (.aload_n 0, 1) := by decide +kernel
theorem dX7_look_205 : decode cX7_look 205 = .ok (.getfield 19, 3) := by decide +kernel
theorem dX7_look_208 : decode cX7_look 208 = .ok (.getfield 169, 3) := by decide +kernel
theorem dX7_look_211 : decode cX7_look 211 = .ok (.ireturn, 1) := by decide +kernel
theorem dX7_look_212 : decode cX7_look 212 = .ok (.aload_n 0, 1) := by decide +kernel
theorem dX7_look_213 : decode cX7_look 213 = .ok (.getfield 26, 3) := by decide +kernel
theorem dX7_look_216 : decode cX7_look 216 = .ok (.getfield 172, 3) := by decide +kernel
theorem dX7_look_219 : decode cX7_look 219 = .ok (.ifCond .eq 7, 3) := by decide +kernel
theorem dX7_look_222 : decode cX7_look 222 = .ok (.iconst 1, 1) := by decide +kernel
theorem dX7_look_223 : decode cX7_look 223 = .ok (.goto 4, 3) := by decide +kernel
theorem dX7_look_226 : decode cX7_look 226 = .ok (.iconst 0, 1) := by decide +kernel
theorem dX7_look_227 : decode cX7_look 227 = .ok (.ireturn, 1) := by decide +kernel
theorem dX7_look_228 : decode cX7_look 228 = .ok (.aload_n 0, 1) := by decide +kernel
theorem dX7_look_229 : decode cX7_look 229 = .ok (.getfield 26, 3) := by decide +kernel
theorem dX7_look_232 : decode cX7_look 232 = .ok (.getfield 175, 3) := by decide +kernel
theorem dX7_look_235 : decode cX7_look 235 = .ok (.ifCond .eq 7, 3) := by decide +kernel
theorem dX7_look_238 : decode cX7_look 238 = .ok (.iconst 1, 1) := by decide +kernel
theorem dX7_look_239 : decode cX7_look 239 = .ok (.goto 4, 3) := by decide +kernel
theorem dX7_look_242 : decode cX7_look 242 = .ok (.iconst 0, 1) := by decide +kernel
theorem dX7_look_243 : decode cX7_look 243 = .ok (.ireturn, 1) := by decide +kernel
theorem dX7_look_244 : decode cX7_look 244 = .ok (.aload_n 0, 1) := by decide +kernel
theorem dX7_look_245 : decode cX7_look 245 = .ok (.getfield 26, 3) := by decide +kernel
theorem dX7_look_248 : decode cX7_look 248 = .ok (.getfield 178, 3) := by decide +kernel
theorem dX7_look_251 : decode cX7_look 251 = .ok (.ireturn, 1) := by decide +kernel
theorem dX7_look_252 : decode cX7_look 252 = .ok (.aload_n 0, 1) := by decide +kernel
theorem dX7_look_253 : decode cX7_look 253 = .ok (.getfield 19, 3) := by decide +kernel
theorem dX7_look_256 : decode cX7_look 256 = .ok (.getfield 181, 3) := by decide +kernel
theorem dX7_look_259 : decode cX7_look 259 = .ok (.ireturn, 1) := by decide +kernel
theorem dX7_look_260 : decode cX7_look 260 = .ok (.aload_n 0, 1) := by decide +kernel
theorem dX7_look_261 : decode cX7_look 261 = .ok (.getfield 26, 3) := by decide +kernel
theorem dX7_look_264 : decode cX7_look 264 = .ok (.getfield 184, 3) := by decide +kernel
theorem dX7_look_267 : decode cX7_look 267 = .ok (.ireturn, 1) := by decide +kernel
theorem dX7_look_268 : decode cX7_look 268 = .ok (.aload_n 0, 1) := by decide +kernel
theorem dX7_look_269 : decode cX7_look 269 = .ok (.getfield 26, 3) := by decide +kernel
theorem dX7_look_272 : decode cX7_look 272 = .ok (.getfield 142, 3) := by decide +kernel
theorem dX7_look_275 : decode cX7_look 275 = .ok (.ireturn, 1) := by decide +kernel
theorem dX7_look_276 : decode cX7_look 276 = .ok (.aload_n 0, 1) := by decide +kernel
theorem dX7_look_277 : decode cX7_look 277 = .ok (.getfield 41, 3) := by decide +kernel
theorem dX7_look_280 : decode cX7_look 280 = .ok (.getfield 111, 3) := by decide +kernel
theorem dX7_look_283 : decode cX7_look 283 = .ok (.ireturn, 1) := by decide +kernel
theorem dX7_look_284 : decode cX7_look 284 = .ok (.aload_n 0, 1) := by decide +kernel
theorem dX7_look_285 : decode cX7_look 285 = .ok (.getfield 41, 3) := by decide +kernel
theorem dX7_look_288 : decode cX7_look 288 = .ok (.invokevirtual 187, 3) := by decide +kernel
theorem dX7_look_291 : decode cX7_look 291 = .ok (.ifCond .eq 7, 3) := by decide +kernel
theorem dX7_look_294 : decode cX7_look 294 = .ok (.iconst 1, 1) := by decide +kernel
theorem dX7_look_295 : decode cX7_look 295 = .ok (.goto 4, 3) := by decide +kernel
theorem dX7_look_298 : decode cX7_look 298 = .ok (.iconst 0, 1) := by decide +kernel
theorem dX7_look_299 : decode cX7_look 299 = .ok (.ireturn, 1) := by decide +kernel
theorem dX7_look_300 : decode cX7_look 300 = .ok (.aload_n 0, 1) := by decide +kernel
theorem dX7_look_301 : decode cX7_look 301 = .ok (.getfield 48, 3) := by decide +kernel
theorem dX7_look_304 : decode cX7_look 304 = .ok (.getfield 190, 3) := by decide +kernel
theorem dX7_look_307 : decode cX7_look 307 = .ok (.ireturn, 1) := by decide +kernel
theorem dX7_look_308 : decode cX7_look 308 = .ok (.aload_n 0, 1) := by decide +kernel
theorem dX7_look_309 : decode cX7_look 309 = .ok (.getfield 55, 3) := by decide +kernel
theorem dX7_look_312 : decode cX7_look 312 = .ok (.getfield 126, 3) := by decide +kernel
theorem dX7_look_315 : decode cX7_look 315 = .ok (.ireturn, 1) := by decide +kernel
theorem dX7_look_316 : decode cX7_look 316 = .ok (.aload_n 0, 1) := by decide +kernel
theorem dX7_look_317 : decode cX7_look 317 = .ok (.getfield 191, 3) := by decide +kernel
theorem dX7_look_320 : decode cX7_look 320 = .ok (.ireturn, 1) := by decide +kernel
theorem dX7_look_321 : decode cX7_look 321 = .ok (.aload_n 0, 1) := by decide +kernel
theorem dX7_look_322 : decode cX7_look 322 = .ok (.getfield 10, 3) := by decide +kernel
theorem dX7_look_325 : decode cX7_look 325 = .ok (.invokevirtual 194, 3) := by decide +kernel
theorem dX7_look_328 : decode cX7_look 328 = .ok (.ifCond .eq 7, 3) := by decide +kernel
theorem dX7_look_331 : decode cX7_look 331 = .ok (.iconst 1, 1) := by decide +kernel
theorem dX7_look_332 : decode cX7_look 332 = .ok (.goto 4, 3) := by decide +kernel
theorem dX7_look_335 : decode cX7_look 335 = .ok (.iconst 0, 1) := by decide +kernel
theorem dX7_look_336 : decode cX7_look 336 = .ok (.ireturn, 1) := by decide +kernel
theorem dX7_look_337 : decode cX7_look 337 = .ok (.aload_n 0, 1) := by decide +kernel
theorem dX7_look_338 : decode cX7_look 338 = .ok (.getfield 41, 3) := by decide +kernel
theorem dX7_look_341 : decode cX7_look 341 = .ok (.invokevirtual 197, 3) := by decide +kernel
theorem dX7_look_344 : decode cX7_look 344 = .ok (.ifCond .eq 7, 3) := by decide +kernel
theorem dX7_look_347 : decode cX7_look 347 = .ok (.iconst 1, 1) := by decide +kernel
theorem dX7_look_348 : decode cX7_look 348 = .ok (.goto 4, 3) := by decide +kernel
theorem dX7_look_351 : decode cX7_look 351 = .ok (.iconst 0, 1) := by decide +kernel
theorem dX7_look_352 : decode cX7_look 352 = .ok (.ireturn, 1) := by decide +kernel
theorem dX7_look_353 : decode cX7_look 353 = .ok (.iconst (-1), 1) := by decide +kernel
theorem dX7_look_354 : decode cX7_look 354 = .ok (.ireturn, 1) := by decide +kernel
theorem dX7_byteComes_0 : decode cX7_byteComes 0 = .ok (.aload_n 0, 1) := by decide +kernel
theorem dX7_byteComes_1 : decode cX7_byteComes 1 = .ok (.dup, 1) := by decide +kernel
theorem dX7_byteComes_2 : decode cX7_byteComes 2 = .ok (.getfield 191, 3) := by decide +kernel
theorem dX7_byteComes_5 : decode cX7_byteComes 5 = .ok (.iconst 1, 1) := by decide +kernel
theorem dX7_byteComes_6 : decode cX7_byteComes 6 = .ok (.iadd, 1) := by decide +kernel
theorem dX7_byteComes_7 : decode cX7_byteComes 7 = .ok (.putfield 191, 3) := by decide +kernel
theorem dX7_byteComes_10 : decode cX7_byteComes 10 = .ok (.aload_n 0, 1) := by decide +kernel
theorem dX7_byteComes_11 : decode cX7_byteComes 11 = .ok (.getfield 10, 3) := by decide +kernel
theorem dX7_byteComes_14 : decode cX7_byteComes 14 = .ok (.iload_n 1, 1) := by decide +kernel
theorem dX7_byteComes_15 : decode cX7_byteComes 15 = .ok (.invokevirtual 200, 3) := by decide +kernel
theorem dX7_byteComes_18 : decode cX7_byteComes 18 = .ok (.tableswitch 76 1 5 #[34, 42, 50, 58, 65], 34) := by decide +kernel
theorem dX7_byteComes_52 : decode cX7_byteComes 52 = .ok (.aload_n 0, 1) := by decide +kernel
theorem dX7_byteComes_53 : decode cX7_byteComes 53 = .ok (.iload_n 1, 1) := by decide +kernel
theorem dX7_byteComes_54 : decode cX7_byteComes 54 = .ok (.invokevirtual 203, 3) := by decide +kernel
theorem dX7_byteComes_57 : decode cX7_byteComes 57 = .ok (.goto 37, 3) := by decide +kernel
theorem dX7_byteComes_60 : decode cX7_byteComes 60 = .ok (.aload_n 0, 1) := by decide +kernel
theorem dX7_byteComes_61 : decode cX7_byteComes 61 = .ok (.iload_n 1, 1) := by decide +kernel
theorem dX7_byteComes_62 : decode cX7_byteComes 62 = .ok (.invokevirtual 206, 3) := by decide +kernel
theorem dX7_byteComes_65 : decode cX7_byteComes 65 = .ok (.goto 29, 3) := by decide +kernel
theorem dX7_byteComes_68 : decode cX7_byteComes 68 = .ok (.aload_n 0, 1) := by decide +kernel
theorem dX7_byteComes_69 : decode cX7_byteComes 69 = .ok (.iload_n 1, 1) := by decide +kernel
theorem dX7_byteComes_70 : decode cX7_byteComes 70 = .ok (.invokevirtual 209, 3) := by decide +kernel
theorem dX7_byteComes_73 : decode cX7_byteComes 73 = .ok (.goto 21, 3) := by decide +kernel
theorem dX7_byteComes_76 : decode cX7_byteComes 76 = .ok (.aload_n 0, 1) := by decide +kernel
theorem dX7_byteComes_77 : decode cX7_byteComes 77 = .ok (.invokevirtual 212, 3) := by decide +kernel
theorem dX7_byteComes_80 : decode cX7_byteComes 80 = .ok (.goto 14, 3) := by decide +kernel
theorem dX7_byteComes_83 : decode cX7_byteComes 83 = .ok (.aload_n 0, 1) := by decide +kernel
theorem dX7_byteComes_84 : decode cX7_byteComes 84 = .ok (.getfield 55, 3) := by decide +kernel
theorem dX7_byteComes_87 : decode cX7_byteComes 87 = .ok (.iload_n 1, 1) := by decide +kernel
theorem dX7_byteComes_88 : decode cX7_byteComes 88 = .ok (.invokevirtual 215, 3) := by decide +kernel
theorem dX7_byteComes_91 : decode cX7_byteComes 91 = .ok (.goto 3, 3) := by decide +kernel
theorem dX7_byteComes_94 : decode cX7_byteComes 94 = .ok (.return_, 1) := by decide +kernel
theorem dX7_reset_0 : decode cX7_reset 0 = .ok (.aload_n 0, 1) := by decide +kernel
theorem dX7_reset_1 : decode cX7_reset 1 = .ok (.getfield 19, 3) := by decide +kernel
theorem dX7_reset_4 : decode cX7_reset 4 = .ok (.iconst 2, 1) := by decide +kernel
theorem dX7_reset_5 : decode cX7_reset 5 = .ok (.iconst 0, 1) := by decide +kernel
theorem dX7_reset_6 : decode cX7_reset 6 = .ok (.invokevirtual 218, 3) := by decide +kernel
theorem dX7_reset_9 : decode cX7_reset 9 = .ok (.aload_n 0, 1) := by decide +kernel
theorem dX7_reset_10 : decode cX7_reset 10 = .ok (.getfield 19, 3) := by decide +kernel
theorem dX7_reset_13 : decode cX7_reset 13 = .ok (.iconst 1, 1) := by decide +kernel
theorem dX7_reset_14 : decode cX7_reset 14 = .ok (.putfield 181, 3) := by decide +kernel
theorem dX7_reset_17 : decode cX7_reset 17 = .ok (.aload_n 0, 1) := by decide +kernel
theorem dX7_reset_18 : decode cX7_reset 18 = .ok (.getfield 26, 3) := by decide +kernel
theorem dX7_reset_21 : decode cX7_reset 21 = .ok (.sipush 720, 3) := by decide +kernel
theorem dX7_reset_24 : decode cX7_reset 24 = .ok (.putfield 157, 3) := by decide +kernel
theorem dX7_reset_27 : decode cX7_reset 27 = .ok (.aload_n 0, 1) := by decide +kernel
theorem dX7_reset_28 : decode cX7_reset 28 = .ok (.getfield 26, 3) := by decide +kernel
theorem dX7_reset_31 : decode cX7_reset 31 = .ok (.sipush 1200, 3) := by decide +kernel
theorem dX7_reset_34 : decode cX7_reset 34 = .ok (.putfield 160, 3) := by decide +kernel
theorem dX7_reset_37 : decode cX7_reset 37 = .ok (.aload_n 0, 1) := by decide +kernel
theorem dX7_reset_38 : decode cX7_reset 38 = .ok (.getfield 26, 3) := by decide +kernel
theorem dX7_reset_41 : decode cX7_reset 41 = .ok (.iconst 0, 1) := by decide +kernel
theorem dX7_reset_42 : decode cX7_reset 42 = .ok (.putfield 172, 3) := by decide +kernel
theorem dX7_reset_45 : decode cX7_reset 45 = .ok (.aload_n 0, 1) := by decide +kernel
theorem dX7_reset_46 : decode cX7_reset 46 = .ok (.getfield 26, 3) := by decide +kernel
theorem dX7_reset_49 : decode cX7_reset 49 = .ok (.iconst 0, 1) := by decide +kernel
theorem dX7_reset_50 : decode cX7_reset 50 = .ok (.putfield 175, 3) := by decide +kernel
theorem dX7_reset_53 : decode cX7_reset 53 = .ok (.aload_n 0, 1) := by decide +kernel
theorem dX7_reset_54 : decode cX7_reset 54 = .ok (.getfield 26, 3) := by decide +kernel
theorem dX7_reset_57 : decode cX7_reset 57 = .ok (.iconst 0, 1) := by decide +kernel
theorem dX7_reset_58 : decode cX7_reset 58 = .ok (.putfield 178, 3) := by decide +kernel
theorem dX7_reset_61 : decode cX7_reset 61 = .ok (.aload_n 0, 1) := by decide +kernel
theorem dX7_reset_62 : decode cX7_reset 62 = .ok (.getfield 26, 3) := by decide +kernel
theorem dX7_reset_65 : decode cX7_reset 65 = .ok (.iconst 0, 1) := by decide +kernel
theorem dX7_reset_66 : decode cX7_reset 66 = .ok (.putfield 184, 3) := by decide +kernel
theorem dX7_reset_69 : decode cX7_reset 69 = .ok (.aload_n 0, 1) := by decide +kernel
theorem dX7_reset_70 : decode cX7_reset 70 = .ok (.getfield 26, 3) := by decide +kernel
theorem dX7_reset_73 : decode cX7_reset 73 = .ok (.iconst 0, 1) := by decide +kernel
theorem dX7_reset_74 : decode cX7_reset 74 = .ok (.putfield 142, 3) := by decide +kernel
theorem dX7_reset_77 : decode cX7_reset 77 = .ok (.aload_n 0, 1) := by decide +kernel
theorem dX7_reset_78 : decode cX7_reset 78 = .ok (.invokevirtual 222, 3) := by decide +kernel
theorem dX7_reset_81 : decode cX7_reset 81 = .ok (.return_, 1) := by decide +kernel
theorem dX7_setDefaults_0 : decode cX7_setDefaults 0 = .ok (.aload_n 0, 1) := by decide +kernel
theorem dX7_setDefaults_1 : decode cX7_setDefaults 1 = .ok (.getfield 26, 3) := by decide +kernel
theorem dX7_setDefaults_4 : decode cX7_setDefaults 4 = .ok (.sipush 3600, 3) := by decide +kernel
theorem dX7_setDefaults_7 : decode cX7_setDefaults 7 = .ok (.putfield 151, 3) := by decide +kernel
theorem dX7_setDefaults_10 : decode cX7_setDefaults 10 = .ok (.aload_n 0, 1) := by decide +kernel
theorem dX7_setDefaults_11 : decode cX7_setDefaults 11 = .ok (.getfield 26, 3) := by decide +kernel
theorem dX7_setDefaults_14 : decode cX7_setDefaults 14 = .ok (.aload_n 0, 1) := by decide +kernel
theorem dX7_setDefaults_15 : decode cX7_setDefaults 15 = .ok (.getfield 19, 3) := by decide +kernel
theorem dX7_setDefaults_18 : decode cX7_setDefaults 18 = .ok (.getfield 163, 3) := by decide +kernel
theorem dX7_setDefaults_21 : decode cX7_setDefaults 21 = .ok (.sipush 7200, 3) := by decide +kernel
theorem dX7_setDefaults_24 : decode cX7_setDefaults 24 = .ok (.isub, 1) := by decide +kernel
theorem dX7_setDefaults_25 : decode cX7_setDefaults 25 = .ok (.putfield 154, 3) := by decide +kernel
theorem dX7_setDefaults_28 : decode cX7_setDefaults 28 = .ok (.aload_n 0, 1) := by decide +kernel
theorem dX7_setDefaults_29 : decode cX7_setDefaults 29 = .ok (.getfield 26, 3) := by decide +kernel
theorem dX7_setDefaults_32 : decode cX7_setDefaults 32 = .ok (.iconst 0, 1) := by decide +kernel
theorem dX7_setDefaults_33 : decode cX7_setDefaults 33 = .ok (.putfield 91, 3) := by decide +kernel
theorem dX7_setDefaults_36 : decode cX7_setDefaults 36 = .ok (.aload_n 0, 1) := by decide +kernel
theorem dX7_setDefaults_37 : decode cX7_setDefaults 37 = .ok (.getfield 26, 3) := by decide +kernel
theorem dX7_setDefaults_40 : decode cX7_setDefaults 40 = .ok (.aload_n 0, 1) := by decide +kernel
theorem dX7_setDefaults_41 : decode cX7_setDefaults 41 = .ok (.getfield 19, 3) := by decide +kernel
theorem dX7_setDefaults_44 : decode cX7_setDefaults 44 = .ok (.getfield 95, 3) := by decide +kernel
theorem dX7_setDefaults_47 : decode cX7_setDefaults 47 = .ok (.putfield 102, 3) := by decide +kernel
theorem dX7_setDefaults_50 : decode cX7_setDefaults 50 = .ok (.aload_n 0, 1) := by decide +kernel
theorem dX7_setDefaults_51 : decode cX7_setDefaults 51 = .ok (.getfield 26, 3) := by decide +kernel
theorem dX7_setDefaults_54 : decode cX7_setDefaults 54 = .ok (.iconst 0, 1) := by decide +kernel
theorem dX7_setDefaults_55 : decode cX7_setDefaults 55 = .ok (.putfield 105, 3) := by decide +kernel
theorem dX7_setDefaults_58 : decode cX7_setDefaults 58 = .ok (.aload_n 0, 1) := by decide +kernel
theorem dX7_setDefaults_59 : decode cX7_setDefaults 59 = .ok (.aload_n 0, 1) := by decide +kernel
theorem dX7_setDefaults_60 : decode cX7_setDefaults 60 = .ok (.getfield 26, 3) := by decide +kernel
theorem dX7_setDefaults_63 : decode cX7_setDefaults 63 = .ok (.invokevirtual 225, 3) := by decide +kernel
theorem dX7_setDefaults_66 : decode cX7_setDefaults 66 = .ok (.i2l, 1) := by decide +kernel
theorem dX7_setDefaults_67 : decode cX7_setDefaults 67 = .ok (.invokevirtual 84, 3) := by decide +kernel
theorem dX7_setDefaults_70 : decode cX7_setDefaults 70 = .ok (.return_, 1) := by decide +kernel
theorem dX7_changePaper_0 : decode cX7_changePaper 0 = .ok (.aload_n 0, 1) := by decide +kernel
theorem dX7_changePaper_1 : decode cX7_changePaper 1 = .ok (.getfield 41, 3) := by decide +kernel
theorem dX7_changePaper_4 : decode cX7_changePaper 4 = .ok (.invokevirtual 197, 3) := by decide +kernel
theorem dX7_changePaper_7 : decode cX7_changePaper 7 = .ok (.ifCond .eq 7, 3) := by decide +kernel
theorem dX7_changePaper_10 : decode cX7_changePaper 10 = .ok (.aload_n 0, 1) := by decide +kernel
theorem dX7_changePaper_11 : decode cX7_changePaper 11 = .ok (.invokevirtual 229, 3) := by decide +kernel
theorem dX7_changePaper_14 : decode cX7_changePaper 14 = .ok (.aload_n 0, 1) := by decide +kernel
theorem dX7_changePaper_15 : decode cX7_changePaper 15 = .ok (.getfield 19, 3) := by decide +kernel
theorem dX7_changePaper_18 : decode cX7_changePaper 18 = .ok (.iload_n 1, 1) := by decide +kernel
theorem dX7_changePaper_19 : decode cX7_changePaper 19 = .ok (.iload_n 2, 1) := by decide +kernel
theorem dX7_changePaper_20 : decode cX7_changePaper 20 = .ok (.invokevirtual 218, 3) := by decide +kernel
theorem dX7_changePaper_23 : decode cX7_changePaper 23 = .ok (.aload_n 0, 1) := by decide +kernel
theorem dX7_changePaper_24 : decode cX7_changePaper 24 = .ok (.invokevirtual 222, 3) := by decide +kernel
theorem dX7_changePaper_27 : decode cX7_changePaper 27 = .ok (.return_, 1) := by decide +kernel
theorem dX7_eject_0 : decode cX7_eject 0 = .ok (.aload_n 0, 1) := by decide +kernel
theorem dX7_eject_1 : decode cX7_eject 1 = .ok (.getfield 48, 3) := by decide +kernel
theorem dX7_eject_4 : decode cX7_eject 4 = .ok (.aload_n 0, 1) := by decide +kernel
theorem dX7_eject_5 : decode cX7_eject 5 = .ok (.getfield 41, 3) := by decide +kernel
theorem dX7_eject_8 : decode cX7_eject 8 = .ok (.getfield 232, 3) := by decide +kernel
theorem dX7_eject_11 : decode cX7_eject 11 = .ok (.aload_n 0, 1) := by decide +kernel
theorem dX7_eject_12 : decode cX7_eject 12 = .ok (.getfield 19, 3) := by decide +kernel
theorem dX7_eject_15 : decode cX7_eject 15 = .ok (.invokevirtual 235, 3) := by decide +kernel
theorem dX7_eject_18 : decode cX7_eject 18 = .ok (.aload_n 0, 1) := by decide +kernel
theorem dX7_eject_19 : decode cX7_eject 19 = .ok (.getfield 41, 3) := by decide +kernel
theorem dX7_eject_22 : decode cX7_eject 22 = .ok (.invokevirtual 239, 3) := by decide +kernel
theorem dX7_eject_25 : decode cX7_eject 25 = .ok (.aload_n 0, 1) := by decide +kernel
theorem dX7_eject_26 : decode cX7_eject 26 = .ok (.aload_n 0, 1) := by decide +kernel
theorem dX7_eject_27 : decode cX7_eject 27 = .ok (.getfield 26, 3) := by decide +kernel
theorem dX7_eject_30 : decode cX7_eject 30 = .ok (.invokevirtual 225, 3) := by decide +kernel
theorem dX7_eject_33 : decode cX7_eject 33 = .ok (.i2l, 1) := by decide +kernel
theorem dX7_eject_34 : decode cX7_eject 34 = .ok (.invokevirtual 84, 3) := by decide +kernel
theorem dX7_eject_37 : decode cX7_eject 37 = .ok (.return_, 1) := by decide +kernel
theorem dX7_setX_0 : decode cX7_setX 0 = .ok (.aload_n 0, 1) := by decide +kernel
theorem dX7_setX_1 : decode cX7_setX 1 = .ok (.getfield 26, 3) := by decide +kernel
theorem dX7_setX_4 : decode cX7_setX 4 = .ok (.lload_n 1, 1) := by decide +kernel
theorem dX7_setX_5 : decode cX7_setX 5 = .ok (.iconst 0, 1) := by decide +kernel
theorem dX7_setX_6 : decode cX7_setX 6 = .ok (.aload_n 0, 1) := by decide +kernel
theorem dX7_setX_7 : decode cX7_setX 7 = .ok (.getfield 19, 3) := by decide +kernel
theorem dX7_setX_10 : decode cX7_setX 10 = .ok (.getfield 95, 3) := by decide +kernel
theorem dX7_setX_13 : decode cX7_setX 13 = .ok (.invokestatic 98, 3) := by decide +kernel
theorem dX7_setX_16 : decode cX7_setX 16 = .ok (.putfield 105, 3) := by decide +kernel
theorem dX7_setX_19 : decode cX7_setX 19 = .ok (.return_, 1) := by decide +kernel
theorem dX7_setY_0 : decode cX7_setY 0 = .ok (.aload_n 0, 1) := by decide +kernel
theorem dX7_setY_1 : decode cX7_setY 1 = .ok (.getfield 26, 3) := by decide +kernel
theorem dX7_setY_4 : decode cX7_setY 4 = .ok (.lload_n 1, 1) := by decide +kernel
theorem dX7_setY_5 : decode cX7_setY 5 = .ok (.iconst 0, 1) := by decide +kernel
theorem dX7_setY_6 : decode cX7_setY 6 = .ok (.aload_n 0, 1) := by decide +kernel
theorem dX7_setY_7 : decode cX7_setY 7 = .ok (.getfield 19, 3) := by decide +kernel
theorem dX7_setY_10 : decode cX7_setY 10 = .ok (.getfield 163, 3) := by decide +kernel
theorem dX7_setY_13 : decode cX7_setY 13 = .ok (.invokestatic 98, 3) := by decide +kernel
theorem dX7_setY_16 : decode cX7_setY 16 = .ok (.putfield 108, 3) := by decide +kernel
theorem dX7_setY_19 : decode cX7_setY 19 = .ok (.return_, 1) := by decide +kernel
theorem dX7_within_0 : decode cX7_within 0 = .ok (.lload_n 0, 1) := by decide +kernel
theorem dX7_within_1 : decode cX7_within 1 = .ok (.iload_n 2, 1) := by decide +kernel
theorem dX7_within_2 : decode cX7_within 2 = .ok (.i2l, 1) := by decide +kernel
theorem dX7_within_3 : decode cX7_within 3 = .ok (.lcmp, 1) := by decide +kernel
theorem dX7_within_4 : decode cX7_within 4 = .ok (.ifCond .ge 5, 3) := by decide +kernel
theorem dX7_within_7 : decode cX7_within 7 = .ok (.iload_n 2, 1) := by decide +kernel
theorem dX7_within_8 : decode cX7_within 8 = .ok (.ireturn, 1) := by decide +kernel
theorem dX7_within_9 : decode cX7_within 9 = .ok (.lload_n 0, 1) := by decide +kernel
theorem dX7_within_10 : decode cX7_within 10 = .ok (.iload_n 3, 1) := by decide +kernel
theorem dX7_within_11 : decode cX7_within 11 = .ok (.i2l, 1) := by decide +kernel
theorem dX7_within_12 : decode cX7_within 12 = .ok (.lcmp, 1) := by decide +kernel
theorem dX7_within_13 : decode cX7_within 13 = .ok (.ifCond .le 7, 3) := by decide +kernel
theorem dX7_within_16 : decode cX7_within 16 = .ok (.iload_n 3, 1) := by decide +kernel
theorem dX7_within_17 : decode cX7_within 17 = .ok (.goto 5, 3) := by decide +kernel
theorem dX7_within_20 : decode cX7_within 20 = .ok (.lload_n 0, 1) := by decide +kernel
theorem dX7_within_21 : decode cX7_within 21 = .ok (.l2i, 1) := by decide +kernel
theorem dX7_within_22 : decode cX7_within 22 = .ok (.ireturn, 1) := by decide +kernel
theorem dX7_character_0 : decode cX7_character 0 = .ok (.aload_n 0, 1) := by decide +kernel
theorem dX7_character_1 : decode cX7_character 1 = .ok (.getfield 59, 3) := by decide +kernel
theorem dX7_character_4 : decode cX7_character 4 = .ok (.aload_n 0, 1) := by decide +kernel
theorem dX7_character_5 : decode cX7_character 5 = .ok (.getfield 26, 3) := by decide +kernel
theorem dX7_character_8 : decode cX7_character 8 = .ok (.getfield 184, 3) := by decide +kernel
theorem dX7_character_11 : decode cX7_character 11 = .ok (.sipush 256, 3) := by decide +kernel
theorem dX7_character_14 : decode cX7_character 14 = .ok (.imul, 1) := by decide +kernel
theorem dX7_character_15 : decode cX7_character 15 = .ok (.iload_n 1, 1) := by decide +kernel
theorem dX7_character_16 : decode cX7_character 16 = .ok (.iadd, 1) := by decide +kernel
theorem dX7_character_17 : decode cX7_character 17 = .ok (.iaload, 1) := by decide +kernel
theorem dX7_character_18 : decode cX7_character 18 = .ok (.istore_n 2, 1) := by decide +kernel
theorem dX7_character_19 : decode cX7_character 19 = .ok (.iload_n 2, 1) := by decide +kernel
theorem dX7_character_20 : decode cX7_character 20 = .ok (.iconst (-1), 1) := by decide +kernel
theorem dX7_character_21 : decode cX7_character 21 = .ok (.if_icmp .ne 13, 3) := by decide +kernel
theorem dX7_character_24 : decode cX7_character 24 = .ok (.aload_n 0, 1) := by decide +kernel
theorem dX7_character_25 : decode cX7_character 25 = .ok (.getfield 26, 3) := by decide +kernel
theorem dX7_character_28 : decode cX7_character 28 = .ok (.getfield 157, 3) := by decide +kernel
theorem dX7_character_31 : decode cX7_character 31 = .ok (.goto 4, 3) := by decide +kernel
theorem dX7_character_34 : decode cX7_character 34 = .ok (.iload_n 2, 1) := by decide +kernel
theorem dX7_character_35 : decode cX7_character 35 = .ok (.istore_n 3, 1) := by decide +kernel
theorem dX7_character_36 : decode cX7_character 36 = .ok (.aload_n 0, 1) := by decide +kernel
theorem dX7_character_37 : decode cX7_character 37 = .ok (.getfield 26, 3) := by decide +kernel
theorem dX7_character_40 : decode cX7_character 40 = .ok (.getfield 105, 3) := by decide +kernel
theorem dX7_character_43 : decode cX7_character 43 = .ok (.aload_n 0, 1) := by decide +kernel
theorem dX7_character_44 : decode cX7_character 44 = .ok (.getfield 26, 3) := by decide +kernel
theorem dX7_character_47 : decode cX7_character 47 = .ok (.getfield 102, 3) := by decide +kernel
theorem dX7_character_50 : decode cX7_character 50 = .ok (.if_icmp .ge 22, 3) := by decide +kernel
theorem dX7_character_53 : decode cX7_character 53 = .ok (.aload_n 0, 1) := by decide +kernel
theorem dX7_character_54 : decode cX7_character 54 = .ok (.getfield 26, 3) := by decide +kernel
theorem dX7_character_57 : decode cX7_character 57 = .ok (.getfield 105, 3) := by decide +kernel
theorem dX7_character_60 : decode cX7_character 60 = .ok (.iload_n 3, 1) := by decide +kernel
theorem dX7_character_61 : decode cX7_character 61 = .ok (.iadd, 1) := by decide +kernel
theorem dX7_character_62 : decode cX7_character 62 = .ok (.aload_n 0, 1) := by decide +kernel
theorem dX7_character_63 : decode cX7_character 63 = .ok (.getfield 26, 3) := by decide +kernel
theorem dX7_character_66 : decode cX7_character 66 = .ok (.getfield 102, 3) := by decide +kernel
theorem dX7_character_69 : decode cX7_character 69 = .ok (.if_icmp .le 29, 3) := by decide +kernel
theorem dX7_character_72 : decode cX7_character 72 = .ok (.aload_n 0, 1) := by decide +kernel
theorem dX7_character_73 : decode cX7_character 73 = .ok (.getfield 26, 3) := by decide +kernel
theorem dX7_character_76 : decode cX7_character 76 = .ok (.getfield 172, 3) := by decide +kernel
theorem dX7_character_79 : decode cX7_character 79 = .ok (.ifCond .ne 4, 3) := by decide +kernel
theorem dX7_character_82 : decode cX7_character 82 = .ok (.return_, 1) := by decide +kernel
theorem dX7_character_83 : decode cX7_character 83 = .ok (.aload_n 0, 1) := by decide +kernel
theorem dX7_character_84 : decode cX7_character 84 = .ok (.invokevirtual 242, 3) := by decide +kernel
theorem dX7_character_87 : decode cX7_character 87 = .ok (.aload_n 0, 1) := by decide +kernel
theorem dX7_character_88 : decode cX7_character 88 = .ok (.aload_n 0, 1) := by decide +kernel
theorem dX7_character_89 : decode cX7_character 89 = .ok (.getfield 26, 3) := by decide +kernel
theorem dX7_character_92 : decode cX7_character 92 = .ok (.getfield 160, 3) := by decide +kernel
theorem dX7_character_95 : decode cX7_character 95 = .ok (.invokevirtual 245, 3) := by decide +kernel
theorem dX7_character_98 : decode cX7_character 98 = .ok (.iload_n 1, 1) := by decide +kernel
theorem dX7_character_99 : decode cX7_character 99 = .ok (.bipush 32, 2) := by decide +kernel
theorem dX7_character_101 : decode cX7_character 101 = .ok (.if_icmp .eq 32, 3) := by decide +kernel
theorem dX7_character_104 : decode cX7_character 104 = .ok (.aload_n 0, 1) := by decide +kernel
theorem dX7_character_105 : decode cX7_character 105 = .ok (.getfield 41, 3) := by decide +kernel
theorem dX7_character_108 : decode cX7_character 108 = .ok (.aload_n 0, 1) := by decide +kernel
theorem dX7_character_109 : decode cX7_character 109 = .ok (.getfield 26, 3) := by decide +kernel
theorem dX7_character_112 : decode cX7_character 112 = .ok (.getfield 105, 3) := by decide +kernel
theorem dX7_character_115 : decode cX7_character 115 = .ok (.aload_n 0, 1) := by decide +kernel
theorem dX7_character_116 : decode cX7_character 116 = .ok (.getfield 26, 3) := by decide +kernel
theorem dX7_character_119 : decode cX7_character 119 = .ok (.getfield 108, 3) := by decide +kernel
theorem dX7_character_122 : decode cX7_character 122 = .ok (.iload_n 1, 1) := by decide +kernel
theorem dX7_character_123 : decode cX7_character 123 = .ok (.aload_n 0, 1) := by decide +kernel
theorem dX7_character_124 : decode cX7_character 124 = .ok (.getfield 26, 3) := by decide +kernel
theorem dX7_character_127 : decode cX7_character 127 = .ok (.getfield 184, 3) := by decide +kernel
theorem dX7_character_130 : decode cX7_character 130 = .ok (.invokevirtual 248, 3) := by decide +kernel
theorem dX7_character_133 : decode cX7_character 133 = .ok (.aload_n 0, 1) := by decide +kernel
theorem dX7_character_134 : decode cX7_character 134 = .ok (.aload_n 0, 1) := by decide +kernel
theorem dX7_character_135 : decode cX7_character 135 = .ok (.getfield 26, 3) := by decide +kernel
theorem dX7_character_138 : decode cX7_character 138 = .ok (.getfield 105, 3) := by decide +kernel
theorem dX7_character_141 : decode cX7_character 141 = .ok (.iload_n 3, 1) := by decide +kernel
theorem dX7_character_142 : decode cX7_character 142 = .ok (.iadd, 1) := by decide +kernel
theorem dX7_character_143 : decode cX7_character 143 = .ok (.i2l, 1) := by decide +kernel
theorem dX7_character_144 : decode cX7_character 144 = .ok (.invokevirtual 80, 3) := by decide +kernel
theorem dX7_character_147 : decode cX7_character 147 = .ok (.return_, 1) := by decide +kernel
theorem dX7_controlCode_0 : decode cX7_controlCode 0 = .ok (.iload_n 1, 1) := by decide +kernel
theorem dX7_controlCode_1 : decode cX7_controlCode 1 = .ok (.tableswitch 119 8 15 #[47, 54, 61, 119, 79, 90, 97, 108], 47) := by decide +kernel
theorem dX7_controlCode_48 : decode cX7_controlCode 48 = .ok (.aload_n 0, 1) := by decide +kernel
theorem dX7_controlCode_49 : decode cX7_controlCode 49 = .ok (.invokevirtual 252, 3) := by decide +kernel
theorem dX7_controlCode_52 : decode cX7_controlCode 52 = .ok (.goto 68, 3) := by decide +kernel
theorem dX7_controlCode_55 : decode cX7_controlCode 55 = .ok (.aload_n 0, 1) := by decide +kernel
theorem dX7_controlCode_56 : decode cX7_controlCode 56 = .ok (.invokevirtual 255, 3) := by decide +kernel
theorem dX7_controlCode_59 : decode cX7_controlCode 59 = .ok (.goto 61, 3) := by decide +kernel
theorem dX7_controlCode_62 : decode cX7_controlCode 62 = .ok (.aload_n 0, 1) := by decide +kernel
theorem dX7_controlCode_63 : decode cX7_controlCode 63 = .ok (.invokevirtual 258, 3) := by decide +kernel
theorem dX7_controlCode_66 : decode cX7_controlCode 66 = .ok (.aload_n 0, 1) := by decide +kernel
theorem dX7_controlCode_67 : decode cX7_controlCode 67 = .ok (.aload_n 0, 1) := by decide +kernel
theorem dX7_controlCode_68 : decode cX7_controlCode 68 = .ok (.getfield 26, 3) := by decide +kernel
theorem dX7_controlCode_71 : decode cX7_controlCode 71 = .ok (.getfield 160, 3) := by decide +kernel
theorem dX7_controlCode_74 : decode cX7_controlCode 74 = .ok (.invokevirtual 245, 3) := by decide +kernel
theorem dX7_controlCode_77 : decode cX7_controlCode 77 = .ok (.goto 43, 3) := by decide +kernel
theorem dX7_controlCode_80 : decode cX7_controlCode 80 = .ok (.aload_n 0, 1) := by decide +kernel
theorem dX7_controlCode_81 : decode cX7_controlCode 81 = .ok (.invokevirtual 258, 3) := by decide +kernel
theorem dX7_controlCode_84 : decode cX7_controlCode 84 = .ok (.aload_n 0, 1) := by decide +kernel
theorem dX7_controlCode_85 : decode cX7_controlCode 85 = .ok (.invokevirtual 229, 3) := by decide +kernel
theorem dX7_controlCode_88 : decode cX7_controlCode 88 = .ok (.goto 32, 3) := by decide +kernel
theorem dX7_controlCode_91 : decode cX7_controlCode 91 = .ok (.aload_n 0, 1) := by decide +kernel
theorem dX7_controlCode_92 : decode cX7_controlCode 92 = .ok (.invokevirtual 261, 3) := by decide +kernel
theorem dX7_controlCode_95 : decode cX7_controlCode 95 = .ok (.goto 25, 3) := by decide +kernel
theorem dX7_controlCode_98 : decode cX7_controlCode 98 = .ok (.aload_n 0, 1) := by decide +kernel
theorem dX7_controlCode_99 : decode cX7_controlCode 99 = .ok (.getfield 26, 3) := by decide +kernel
theorem dX7_controlCode_102 : decode cX7_controlCode 102 = .ok (.iconst 1, 1) := by decide +kernel
theorem dX7_controlCode_103 : decode cX7_controlCode 103 = .ok (.putfield 184, 3) := by decide +kernel
theorem dX7_controlCode_106 : decode cX7_controlCode 106 = .ok (.goto 14, 3) := by decide +kernel
theorem dX7_controlCode_109 : decode cX7_controlCode 109 = .ok (.aload_n 0, 1) := by decide +kernel
theorem dX7_controlCode_110 : decode cX7_controlCode 110 = .ok (.getfield 26, 3) := by decide +kernel
theorem dX7_controlCode_113 : decode cX7_controlCode 113 = .ok (.iconst 0, 1) := by decide +kernel
theorem dX7_controlCode_114 : decode cX7_controlCode 114 = .ok (.putfield 184, 3) := by decide +kernel
theorem dX7_controlCode_117 : decode cX7_controlCode 117 = .ok (.goto 3, 3) := by decide +kernel
theorem dX7_controlCode_120 : decode cX7_controlCode 120 = .ok (.return_, 1) := by decide +kernel
theorem dX7_backspace_0 : decode cX7_backspace 0 = .ok (.aload_n 0, 1) := by decide +kernel
theorem dX7_backspace_1 : decode cX7_backspace 1 = .ok (.getfield 26, 3) := by decide +kernel
theorem dX7_backspace_4 : decode cX7_backspace 4 = .ok (.getfield 105, 3) := by decide +kernel
theorem dX7_backspace_7 : decode cX7_backspace 7 = .ok (.aload_n 0, 1) := by decide +kernel
theorem dX7_backspace_8 : decode cX7_backspace 8 = .ok (.getfield 26, 3) := by decide +kernel
theorem dX7_backspace_11 : decode cX7_backspace 11 = .ok (.getfield 91, 3) := by decide +kernel
theorem dX7_backspace_14 : decode cX7_backspace 14 = .ok (.if_icmp .ge 7, 3) := by decide +kernel
theorem dX7_backspace_17 : decode cX7_backspace 17 = .ok (.iconst 0, 1) := by decide +kernel
theorem dX7_backspace_18 : decode cX7_backspace 18 = .ok (.goto 10, 3) := by decide +kernel
theorem dX7_backspace_21 : decode cX7_backspace 21 = .ok (.aload_n 0, 1) := by decide +kernel
theorem dX7_backspace_22 : decode cX7_backspace 22 = .ok (.getfield 26, 3) := by decide +kernel
theorem dX7_backspace_25 : decode cX7_backspace 25 = .ok (.getfield 91, 3) := by decide +kernel
theorem dX7_backspace_28 : decode cX7_backspace 28 = .ok (.istore_n 1, 1) := by decide +kernel
theorem dX7_backspace_29 : decode cX7_backspace 29 = .ok (.aload_n 0, 1) := by decide +kernel
theorem dX7_backspace_30 : decode cX7_backspace 30 = .ok (.aload_n 0, 1) := by decide +kernel
theorem dX7_backspace_31 : decode cX7_backspace 31 = .ok (.getfield 26, 3) := by decide +kernel
theorem dX7_backspace_34 : decode cX7_backspace 34 = .ok (.getfield 105, 3) := by decide +kernel
theorem dX7_backspace_37 : decode cX7_backspace 37 = .ok (.i2l, 1) := by decide +kernel
theorem dX7_backspace_38 : decode cX7_backspace 38 = .ok (.aload_n 0, 1) := by decide +kernel
theorem dX7_backspace_39 : decode cX7_backspace 39 = .ok (.getfield 26, 3) := by decide +kernel
theorem dX7_backspace_42 : decode cX7_backspace 42 = .ok (.getfield 157, 3) := by decide +kernel
theorem dX7_backspace_45 : decode cX7_backspace 45 = .ok (.i2l, 1) := by decide +kernel
theorem dX7_backspace_46 : decode cX7_backspace 46 = .ok (.lsub, 1) := by decide +kernel
theorem dX7_backspace_47 : decode cX7_backspace 47 = .ok (.iload_n 1, 1) := by decide +kernel
theorem dX7_backspace_48 : decode cX7_backspace 48 = .ok (.aload_n 0, 1) := by decide +kernel
theorem dX7_backspace_49 : decode cX7_backspace 49 = .ok (.getfield 19, 3) := by decide +kernel
theorem dX7_backspace_52 : decode cX7_backspace 52 = .ok (.getfield 95, 3) := by decide +kernel
theorem dX7_backspace_55 : decode cX7_backspace 55 = .ok (.invokestatic 98, 3) := by decide +kernel
theorem dX7_backspace_58 : decode cX7_backspace 58 = .ok (.i2l, 1) := by decide +kernel
theorem dX7_backspace_59 : decode cX7_backspace 59 = .ok (.invokevirtual 80, 3) := by decide +kernel
theorem dX7_backspace_62 : decode cX7_backspace 62 = .ok (.return_, 1) := by decide +kernel
theorem dX7_tab_0 : decode cX7_tab 0 = .ok (.aload_n 0, 1) := by decide +kernel
theorem dX7_tab_1 : decode cX7_tab 1 = .ok (.getfield 26, 3) := by decide +kernel
theorem dX7_tab_4 : decode cX7_tab 4 = .ok (.getfield 105, 3) := by decide +kernel
theorem dX7_tab_7 : decode cX7_tab 7 = .ok (.aload_n 0, 1) := by decide +kernel
theorem dX7_tab_8 : decode cX7_tab 8 = .ok (.getfield 26, 3) := by decide +kernel
theorem dX7_tab_11 : decode cX7_tab 11 = .ok (.getfield 91, 3) := by decide +kernel
theorem dX7_tab_14 : decode cX7_tab 14 = .ok (.if_icmp .ge 18, 3) := by decide +kernel
theorem dX7_tab_17 : decode cX7_tab 17 = .ok (.aload_n 0, 1) := by decide +kernel
theorem dX7_tab_18 : decode cX7_tab 18 = .ok (.getfield 26, 3) := by decide +kernel
theorem dX7_tab_21 : decode cX7_tab 21 = .ok (.aload_n 0, 1) := by decide +kernel
theorem dX7_tab_22 : decode cX7_tab 22 = .ok (.getfield 26, 3) := by decide +kernel
theorem dX7_tab_25 : decode cX7_tab 25 = .ok (.getfield 91, 3) := by decide +kernel
theorem dX7_tab_28 : decode cX7_tab 28 = .ok (.putfield 105, 3) := by decide +kernel
theorem dX7_tab_31 : decode cX7_tab 31 = .ok (.return_, 1) := by decide +kernel
theorem dX7_tab_32 : decode cX7_tab 32 = .ok (.ldc2_w 264, 3) := by decide +kernel
theorem dX7_tab_35 : decode cX7_tab 35 = .ok (.aload_n 0, 1) := by decide +kernel
theorem dX7_tab_36 : decode cX7_tab 36 = .ok (.getfield 26, 3) := by decide +kernel
theorem dX7_tab_39 : decode cX7_tab 39 = .ok (.getfield 157, 3) := by decide +kernel
theorem dX7_tab_42 : decode cX7_tab 42 = .ok (.i2l, 1) := by decide +kernel
theorem dX7_tab_43 : decode cX7_tab 43 = .ok (.lmul, 1) := by decide +kernel
theorem dX7_tab_44 : decode cX7_tab 44 = .ok (.lstore_n 1, 1) := by decide +kernel
theorem dX7_tab_45 : decode cX7_tab 45 = .ok (.lload_n 1, 1) := by decide +kernel
theorem dX7_tab_46 : decode cX7_tab 46 = .ok (.lconst 0, 1) := by decide +kernel
theorem dX7_tab_47 : decode cX7_tab 47 = .ok (.lcmp, 1) := by decide +kernel
theorem dX7_tab_48 : decode cX7_tab 48 = .ok (.ifCond .le 52, 3) := by decide +kernel
theorem dX7_tab_51 : decode cX7_tab 51 = .ok (.aload_n 0, 1) := by decide +kernel
theorem dX7_tab_52 : decode cX7_tab 52 = .ok (.getfield 26, 3) := by decide +kernel
theorem dX7_tab_55 : decode cX7_tab 55 = .ok (.getfield 105, 3) := by decide +kernel
theorem dX7_tab_58 : decode cX7_tab 58 = .ok (.aload_n 0, 1) := by decide +kernel
theorem dX7_tab_59 : decode cX7_tab 59 = .ok (.getfield 26, 3) := by decide +kernel
theorem dX7_tab_62 : decode cX7_tab 62 = .ok (.getfield 91, 3) := by decide +kernel
theorem dX7_tab_65 : decode cX7_tab 65 = .ok (.isub, 1) := by decide +kernel
theorem dX7_tab_66 : decode cX7_tab 66 = .ok (.i2l, 1) := by decide +kernel
theorem dX7_tab_67 : decode cX7_tab 67 = .ok (.lload_n 1, 1) := by decide +kernel
theorem dX7_tab_68 : decode cX7_tab 68 = .ok (.ldiv, 1) := by decide +kernel
theorem dX7_tab_69 : decode cX7_tab 69 = .ok (.lconst 1, 1) := by decide +kernel
theorem dX7_tab_70 : decode cX7_tab 70 = .ok (.ladd, 1) := by decide +kernel
theorem dX7_tab_71 : decode cX7_tab 71 = .ok (.lstore_n 3, 1) := by decide +kernel
theorem dX7_tab_72 : decode cX7_tab 72 = .ok (.aload_n 0, 1) := by decide +kernel
theorem dX7_tab_73 : decode cX7_tab 73 = .ok (.aload_n 0, 1) := by decide +kernel
theorem dX7_tab_74 : decode cX7_tab 74 = .ok (.getfield 26, 3) := by decide +kernel
theorem dX7_tab_77 : decode cX7_tab 77 = .ok (.getfield 91, 3) := by decide +kernel
theorem dX7_tab_80 : decode cX7_tab 80 = .ok (.i2l, 1) := by decide +kernel
theorem dX7_tab_81 : decode cX7_tab 81 = .ok (.lload_n 1, 1) := by decide +kernel
theorem dX7_tab_82 : decode cX7_tab 82 = .ok (.lload_n 3, 1) := by decide +kernel
theorem dX7_tab_83 : decode cX7_tab 83 = .ok (.lmul, 1) := by decide +kernel
theorem dX7_tab_84 : decode cX7_tab 84 = .ok (.ladd, 1) := by decide +kernel
theorem dX7_tab_85 : decode cX7_tab 85 = .ok (.iconst 0, 1) := by decide +kernel
theorem dX7_tab_86 : decode cX7_tab 86 = .ok (.aload_n 0, 1) := by decide +kernel
theorem dX7_tab_87 : decode cX7_tab 87 = .ok (.getfield 26, 3) := by decide +kernel
theorem dX7_tab_90 : decode cX7_tab 90 = .ok (.getfield 102, 3) := by decide +kernel
theorem dX7_tab_93 : decode cX7_tab 93 = .ok (.invokestatic 98, 3) := by decide +kernel
theorem dX7_tab_96 : decode cX7_tab 96 = .ok (.i2l, 1) := by decide +kernel
theorem dX7_tab_97 : decode cX7_tab 97 = .ok (.invokevirtual 80, 3) := by decide +kernel
theorem dX7_tab_100 : decode cX7_tab 100 = .ok (.return_, 1) := by decide +kernel
theorem dX7_returnIfLineEndsSo_0 : decode cX7_returnIfLineEndsSo 0 = .ok (.aload_n 0, 1) := by decide +kernel
theorem dX7_returnIfLineEndsSo_1 : decode cX7_returnIfLineEndsSo 1 = .ok (.getfield 26, 3) := by decide +kernel
theorem dX7_returnIfLineEndsSo_4 : decode cX7_returnIfLineEndsSo 4 = .ok (.getfield 178, 3) := by decide +kernel
theorem dX7_returnIfLineEndsSo_7 : decode cX7_returnIfLineEndsSo 7 = .ok (.iconst 2, 1) := by decide +kernel
theorem dX7_returnIfLineEndsSo_8 : decode cX7_returnIfLineEndsSo 8 = .ok (.if_icmp .lt 7, 3) := by decide +kernel
theorem dX7_returnIfLineEndsSo_11 : decode cX7_returnIfLineEndsSo 11 = .ok (.aload_n 0, 1) := by decide +kernel
theorem dX7_returnIfLineEndsSo_12 : decode cX7_returnIfLineEndsSo 12 = .ok (.invokevirtual 242, 3) := by decide +kernel
theorem dX7_returnIfLineEndsSo_15 : decode cX7_returnIfLineEndsSo 15 = .ok (.return_, 1) := by decide +kernel
theorem dX7_returnWithLineEnd_0 : decode cX7_returnWithLineEnd 0 = .ok (.aload_n 0, 1) := by decide +kernel
theorem dX7_returnWithLineEnd_1 : decode cX7_returnWithLineEnd 1 = .ok (.invokevirtual 242, 3) := by decide +kernel
theorem dX7_returnWithLineEnd_4 : decode cX7_returnWithLineEnd 4 = .ok (.aload_n 0, 1) := by decide +kernel
theorem dX7_returnWithLineEnd_5 : decode cX7_returnWithLineEnd 5 = .ok (.getfield 26, 3) := by decide +kernel
theorem dX7_returnWithLineEnd_8 : decode cX7_returnWithLineEnd 8 = .ok (.getfield 178, 3) := by decide +kernel
theorem dX7_returnWithLineEnd_11 : decode cX7_returnWithLineEnd 11 = .ok (.iconst 1, 1) := by decide +kernel
theorem dX7_returnWithLineEnd_12 : decode cX7_returnWithLineEnd 12 = .ok (.if_icmp .eq 14, 3) := by decide +kernel
theorem dX7_returnWithLineEnd_15 : decode cX7_returnWithLineEnd 15 = .ok (.aload_n 0, 1) := by decide +kernel
theorem dX7_returnWithLineEnd_16 : decode cX7_returnWithLineEnd 16 = .ok (.getfield 26, 3) := by decide +kernel
theorem dX7_returnWithLineEnd_19 : decode cX7_returnWithLineEnd 19 = .ok (.getfield 178, 3) := by decide +kernel
theorem dX7_returnWithLineEnd_22 : decode cX7_returnWithLineEnd 22 = .ok (.iconst 3, 1) := by decide +kernel
theorem dX7_returnWithLineEnd_23 : decode cX7_returnWithLineEnd 23 = .ok (.if_icmp .ne 14, 3) := by decide +kernel
theorem dX7_returnWithLineEnd_26 : decode cX7_returnWithLineEnd 26 = .ok (.aload_n 0, 1) := by decide +kernel
theorem dX7_returnWithLineEnd_27 : decode cX7_returnWithLineEnd 27 = .ok (.aload_n 0, 1) := by decide +kernel
theorem dX7_returnWithLineEnd_28 : decode cX7_returnWithLineEnd 28 = .ok (.getfield 26, 3) := by decide +kernel
theorem dX7_returnWithLineEnd_31 : decode cX7_returnWithLineEnd 31 = .ok (.getfield 160, 3) := by decide +kernel
theorem dX7_returnWithLineEnd_34 : decode cX7_returnWithLineEnd 34 = .ok (.invokevirtual 245, 3) := by decide +kernel
theorem dX7_returnWithLineEnd_37 : decode cX7_returnWithLineEnd 37 = .ok (.return_, 1) := by decide +kernel
theorem dX7_carriageReturn_0 : decode cX7_carriageReturn 0 = .ok (.aload_n 0, 1) := by decide +kernel
theorem dX7_carriageReturn_1 : decode cX7_carriageReturn 1 = .ok (.getfield 26, 3) := by decide +kernel
theorem dX7_carriageReturn_4 : decode cX7_carriageReturn 4 = .ok (.aload_n 0, 1) := by decide +kernel
theorem dX7_carriageReturn_5 : decode cX7_carriageReturn 5 = .ok (.getfield 26, 3) := by decide +kernel
theorem dX7_carriageReturn_8 : decode cX7_carriageReturn 8 = .ok (.getfield 91, 3) := by decide +kernel
theorem dX7_carriageReturn_11 : decode cX7_carriageReturn 11 = .ok (.putfield 105, 3) := by decide +kernel
theorem dX7_carriageReturn_14 : decode cX7_carriageReturn 14 = .ok (.return_, 1) := by decide +kernel
theorem dX7_lineFeed_0 : decode cX7_lineFeed 0 = .ok (.aload_n 0, 1) := by decide +kernel
theorem dX7_lineFeed_1 : decode cX7_lineFeed 1 = .ok (.getfield 26, 3) := by decide +kernel
theorem dX7_lineFeed_4 : decode cX7_lineFeed 4 = .ok (.getfield 108, 3) := by decide +kernel
theorem dX7_lineFeed_7 : decode cX7_lineFeed 7 = .ok (.iload_n 1, 1) := by decide +kernel
theorem dX7_lineFeed_8 : decode cX7_lineFeed 8 = .ok (.iadd, 1) := by decide +kernel
theorem dX7_lineFeed_9 : decode cX7_lineFeed 9 = .ok (.istore_n 2, 1) := by decide +kernel
theorem dX7_lineFeed_10 : decode cX7_lineFeed 10 = .ok (.iload_n 2, 1) := by decide +kernel
theorem dX7_lineFeed_11 : decode cX7_lineFeed 11 = .ok (.aload_n 0, 1) := by decide +kernel
theorem dX7_lineFeed_12 : decode cX7_lineFeed 12 = .ok (.getfield 19, 3) := by decide +kernel
theorem dX7_lineFeed_15 : decode cX7_lineFeed 15 = .ok (.getfield 163, 3) := by decide +kernel
theorem dX7_lineFeed_18 : decode cX7_lineFeed 18 = .ok (.if_icmp .gt 32, 3) := by decide +kernel
theorem dX7_lineFeed_21 : decode cX7_lineFeed 21 = .ok (.aload_n 0, 1) := by decide +kernel
theorem dX7_lineFeed_22 : decode cX7_lineFeed 22 = .ok (.getfield 26, 3) := by decide +kernel
theorem dX7_lineFeed_25 : decode cX7_lineFeed 25 = .ok (.getfield 175, 3) := by decide +kernel
theorem dX7_lineFeed_28 : decode cX7_lineFeed 28 = .ok (.ifCond .eq 29, 3) := by decide +kernel
theorem dX7_lineFeed_31 : decode cX7_lineFeed 31 = .ok (.iload_n 2, 1) := by decide +kernel
theorem dX7_lineFeed_32 : decode cX7_lineFeed 32 = .ok (.aload_n 0, 1) := by decide +kernel
theorem dX7_lineFeed_33 : decode cX7_lineFeed 33 = .ok (.getfield 26, 3) := by decide +kernel
theorem dX7_lineFeed_36 : decode cX7_lineFeed 36 = .ok (.getfield 151, 3) := by decide +kernel
theorem dX7_lineFeed_39 : decode cX7_lineFeed 39 = .ok (.aload_n 0, 1) := by decide +kernel
theorem dX7_lineFeed_40 : decode cX7_lineFeed 40 = .ok (.getfield 26, 3) := by decide +kernel
theorem dX7_lineFeed_43 : decode cX7_lineFeed 43 = .ok (.getfield 154, 3) := by decide +kernel
theorem dX7_lineFeed_46 : decode cX7_lineFeed 46 = .ok (.iadd, 1) := by decide +kernel
theorem dX7_lineFeed_47 : decode cX7_lineFeed 47 = .ok (.if_icmp .le 10, 3) := by decide +kernel
theorem dX7_lineFeed_50 : decode cX7_lineFeed 50 = .ok (.aload_n 0, 1) := by decide +kernel
theorem dX7_lineFeed_51 : decode cX7_lineFeed 51 = .ok (.invokevirtual 229, 3) := by decide +kernel
theorem dX7_lineFeed_54 : decode cX7_lineFeed 54 = .ok (.goto 11, 3) := by decide +kernel
theorem dX7_lineFeed_57 : decode cX7_lineFeed 57 = .ok (.aload_n 0, 1) := by decide +kernel
theorem dX7_lineFeed_58 : decode cX7_lineFeed 58 = .ok (.getfield 26, 3) := by decide +kernel
theorem dX7_lineFeed_61 : decode cX7_lineFeed 61 = .ok (.iload_n 2, 1) := by decide +kernel
theorem dX7_lineFeed_62 : decode cX7_lineFeed 62 = .ok (.putfield 108, 3) := by decide +kernel
theorem dX7_lineFeed_65 : decode cX7_lineFeed 65 = .ok (.return_, 1) := by decide +kernel
theorem dX7_shortSequence_0 : decode cX7_shortSequence 0 = .ok (.iload_n 1, 1) := by decide +kernel
theorem dX7_shortSequence_1 : decode cX7_shortSequence 1 = .ok (.lookupswitch 97 #[(57, 56), (61, 81), (69, 35)], 35) := by decide +kernel
theorem dX7_shortSequence_36 : decode cX7_shortSequence 36 = .ok (.aload_n 0, 1) := by decide +kernel
theorem dX7_shortSequence_37 : decode cX7_shortSequence 37 = .ok (.getfield 41, 3) := by decide +kernel
theorem dX7_shortSequence_40 : decode cX7_shortSequence 40 = .ok (.invokevirtual 197, 3) := by decide +kernel
theorem dX7_shortSequence_43 : decode cX7_shortSequence 43 = .ok (.ifCond .eq 7, 3) := by decide +kernel
theorem dX7_shortSequence_46 : decode cX7_shortSequence 46 = .ok (.aload_n 0, 1) := by decide +kernel
theorem dX7_shortSequence_47 : decode cX7_shortSequence 47 = .ok (.invokevirtual 229, 3) := by decide +kernel
theorem dX7_shortSequence_50 : decode cX7_shortSequence 50 = .ok (.aload_n 0, 1) := by decide +kernel
theorem dX7_shortSequence_51 : decode cX7_shortSequence 51 = .ok (.invokevirtual 69, 3) := by decide +kernel
theorem dX7_shortSequence_54 : decode cX7_shortSequence 54 = .ok (.goto 44, 3) := by decide +kernel
theorem dX7_shortSequence_57 : decode cX7_shortSequence 57 = .ok (.aload_n 0, 1) := by decide +kernel
theorem dX7_shortSequence_58 : decode cX7_shortSequence 58 = .ok (.getfield 26, 3) := by decide +kernel
theorem dX7_shortSequence_61 : decode cX7_shortSequence 61 = .ok (.iconst 0, 1) := by decide +kernel
theorem dX7_shortSequence_62 : decode cX7_shortSequence 62 = .ok (.putfield 91, 3) := by decide +kernel
theorem dX7_shortSequence_65 : decode cX7_shortSequence 65 = .ok (.aload_n 0, 1) := by decide +kernel
theorem dX7_shortSequence_66 : decode cX7_shortSequence 66 = .ok (.getfield 26, 3) := by decide +kernel
theorem dX7_shortSequence_69 : decode cX7_shortSequence 69 = .ok (.aload_n 0, 1) := by decide +kernel
theorem dX7_shortSequence_70 : decode cX7_shortSequence 70 = .ok (.getfield 19, 3) := by decide +kernel
theorem dX7_shortSequence_73 : decode cX7_shortSequence 73 = .ok (.getfield 95, 3) := by decide +kernel
theorem dX7_shortSequence_76 : decode cX7_shortSequence 76 = .ok (.putfield 102, 3) := by decide +kernel
theorem dX7_shortSequence_79 : decode cX7_shortSequence 79 = .ok (.goto 19, 3) := by decide +kernel
theorem dX7_shortSequence_82 : decode cX7_shortSequence 82 = .ok (.aload_n 0, 1) := by decide +kernel
theorem dX7_shortSequence_83 : decode cX7_shortSequence 83 = .ok (.aload_n 0, 1) := by decide +kernel
theorem dX7_shortSequence_84 : decode cX7_shortSequence 84 = .ok (.getfield 26, 3) := by decide +kernel
theorem dX7_shortSequence_87 : decode cX7_shortSequence 87 = .ok (.getfield 160, 3) := by decide +kernel
theorem dX7_shortSequence_90 : decode cX7_shortSequence 90 = .ok (.iconst 2, 1) := by decide +kernel
theorem dX7_shortSequence_91 : decode cX7_shortSequence 91 = .ok (.idiv, 1) := by decide +kernel
theorem dX7_shortSequence_92 : decode cX7_shortSequence 92 = .ok (.invokevirtual 245, 3) := by decide +kernel
theorem dX7_shortSequence_95 : decode cX7_shortSequence 95 = .ok (.goto 3, 3) := by decide +kernel
theorem dX7_shortSequence_98 : decode cX7_shortSequence 98 = .ok (.return_, 1) := by decide +kernel
theorem dX7_command_0 : decode cX7_command 0 = .ok (.aload_n 0, 1) := by decide +kernel
theorem dX7_command_1 : decode cX7_command 1 = .ok (.getfield 10, 3) := by decide +kernel
theorem dX7_command_4 : decode cX7_command 4 = .ok (.getfield 266, 3) := by decide +kernel
theorem dX7_command_7 : decode cX7_command 7 = .ok (.ifCond .ge 7, 3) := by decide +kernel
theorem dX7_command_10 : decode cX7_command 10 = .ok (.lconst 0, 1) := by decide +kernel
theorem dX7_command_11 : decode cX7_command 11 = .ok (.goto 11, 3) := by decide +kernel
theorem dX7_command_14 : decode cX7_command 14 = .ok (.aload_n 0, 1) := by decide +kernel
theorem dX7_command_15 : decode cX7_command 15 = .ok (.getfield 10, 3) := by decide +kernel
theorem dX7_command_18 : decode cX7_command 18 = .ok (.getfield 266, 3) := by decide +kernel
theorem dX7_command_21 : decode cX7_command 21 = .ok (.i2l, 1) := by decide +kernel
theorem dX7_command_22 : decode cX7_command 22 = .ok (.lstore_n 1, 1) := by decide +kernel
theorem dX7_command_23 : decode cX7_command 23 = .ok (.lload_n 1, 1) := by decide +kernel
theorem dX7_command_24 : decode cX7_command 24 = .ok (.ldc2_w 269, 3) := by decide +kernel
theorem dX7_command_27 : decode cX7_command 27 = .ok (.ldiv, 1) := by decide +kernel
theorem dX7_command_28 : decode cX7_command 28 = .ok (.lstore_n 3, 1) := by decide +kernel
theorem dX7_command_29 : decode cX7_command 29 = .ok (.aload_n 0, 1) := by decide +kernel
theorem dX7_command_30 : decode cX7_command 30 = .ok (.getfield 10, 3) := by decide +kernel
theorem dX7_command_33 : decode cX7_command 33 = .ok (.getfield 271, 3) := by decide +kernel
theorem dX7_command_36 : decode cX7_command 36 = .ok (.bipush 8, 2) := by decide +kernel
theorem dX7_command_38 : decode cX7_command 38 = .ok (.ishl, 1) := by decide +kernel
theorem dX7_command_39 : decode cX7_command 39 = .ok (.aload_n 0, 1) := by decide +kernel
theorem dX7_command_40 : decode cX7_command 40 = .ok (.getfield 10, 3) := by decide +kernel
theorem dX7_command_43 : decode cX7_command 43 = .ok (.getfield 274, 3) := by decide +kernel
theorem dX7_command_46 : decode cX7_command 46 = .ok (.ior, 1) := by decide +kernel
theorem dX7_command_47 : decode cX7_command 47 = .ok (.lookupswitch 153 #[(9825, 87), (9830, 122), (9835, 76), (9836, 65), (9840, 132), (9843, 112), (10864, 144)], 65) := by decide +kernel
theorem dX7_command_112 : decode cX7_command 112 = .ok (.aload_n 0, 1) := by decide +kernel
theorem dX7_command_113 : decode cX7_command 113 = .ok (.lload_n 1, 1) := by decide +kernel
theorem dX7_command_114 : decode cX7_command 114 = .ok (.lload_n 3, 1) := by decide +kernel
theorem dX7_command_115 : decode cX7_command 115 = .ok (.invokevirtual 277, 3) := by decide +kernel
theorem dX7_command_118 : decode cX7_command 118 = .ok (.istore 5, 2) := by decide +kernel
theorem dX7_command_120 : decode cX7_command 120 = .ok (.goto 83, 3) := by decide +kernel
theorem dX7_command_123 : decode cX7_command 123 = .ok (.aload_n 0, 1) := by decide +kernel
theorem dX7_command_124 : decode cX7_command 124 = .ok (.lload_n 1, 1) := by decide +kernel
theorem dX7_command_125 : decode cX7_command 125 = .ok (.lload_n 3, 1) := by decide +kernel
theorem dX7_command_126 : decode cX7_command 126 = .ok (.invokevirtual 281, 3) := by decide +kernel
theorem dX7_command_129 : decode cX7_command 129 = .ok (.istore 5, 2) := by decide +kernel
theorem dX7_command_131 : decode cX7_command 131 = .ok (.goto 72, 3) := by decide +kernel
theorem dX7_command_134 : decode cX7_command 134 = .ok (.aload_n 0, 1) := by decide +kernel
theorem dX7_command_135 : decode cX7_command 135 = .ok (.lload_n 3, 1) := by decide +kernel
theorem dX7_command_136 : decode cX7_command 136 = .ok (.invokevirtual 284, 3) := by decide +kernel
theorem dX7_command_139 : decode cX7_command 139 = .ok (.ifCond .ne 10, 3) := by decide +kernel
theorem dX7_command_142 : decode cX7_command 142 = .ok (.aload_n 0, 1) := by decide +kernel
theorem dX7_command_143 : decode cX7_command 143 = .ok (.invokevirtual 288, 3) := by decide +kernel
theorem dX7_command_146 : decode cX7_command 146 = .ok (.ifCond .eq 7, 3) := by decide +kernel
theorem dX7_command_149 : decode cX7_command 149 = .ok (.iconst 1, 1) := by decide +kernel
theorem dX7_command_150 : decode cX7_command 150 = .ok (.goto 4, 3) := by decide +kernel
theorem dX7_command_153 : decode cX7_command 153 = .ok (.iconst 0, 1) := by decide +kernel
theorem dX7_command_154 : decode cX7_command 154 = .ok (.istore 5, 2) := by decide +kernel
theorem dX7_command_156 : decode cX7_command 156 = .ok (.goto 47, 3) := by decide +kernel
theorem dX7_command_159 : decode cX7_command 159 = .ok (.aload_n 0, 1) := by decide +kernel
theorem dX7_command_160 : decode cX7_command 160 = .ok (.lload_n 3, 1) := by decide +kernel
theorem dX7_command_161 : decode cX7_command 161 = .ok (.invokevirtual 291, 3) := by decide +kernel
theorem dX7_command_164 : decode cX7_command 164 = .ok (.istore 5, 2) := by decide +kernel
theorem dX7_command_166 : decode cX7_command 166 = .ok (.goto 37, 3) := by decide +kernel
theorem dX7_command_169 : decode cX7_command 169 = .ok (.aload_n 0, 1) := by decide +kernel
theorem dX7_command_170 : decode cX7_command 170 = .ok (.lload_n 3, 1) := by decide +kernel
theorem dX7_command_171 : decode cX7_command 171 = .ok (.invokevirtual 294, 3) := by decide +kernel
theorem dX7_command_174 : decode cX7_command 174 = .ok (.istore 5, 2) := by decide +kernel
theorem dX7_command_176 : decode cX7_command 176 = .ok (.goto 27, 3) := by decide +kernel
theorem dX7_command_179 : decode cX7_command 179 = .ok (.aload_n 0, 1) := by decide +kernel
theorem dX7_command_180 : decode cX7_command 180 = .ok (.getfield 10, 3) := by decide +kernel
theorem dX7_command_183 : decode cX7_command 183 = .ok (.invokevirtual 297, 3) := by decide +kernel
theorem dX7_command_186 : decode cX7_command 186 = .ok (.istore 5, 2) := by decide +kernel
theorem dX7_command_188 : decode cX7_command 188 = .ok (.goto 15, 3) := by decide +kernel
theorem dX7_command_191 : decode cX7_command 191 = .ok (.aload_n 0, 1) := by decide +kernel
theorem dX7_command_192 : decode cX7_command 192 = .ok (.invokevirtual 300, 3) := by decide +kernel
theorem dX7_command_195 : decode cX7_command 195 = .ok (.istore 5, 2) := by decide +kernel
theorem dX7_command_197 : decode cX7_command 197 = .ok (.goto 6, 3) := by decide +kernel
theorem dX7_command_200 : decode cX7_command 200 = .ok (.iconst 0, 1) := by decide +kernel
theorem dX7_command_201 : decode cX7_command 201 = .ok (.istore 5, 2) := by decide +kernel
theorem dX7_command_203 : decode cX7_command 203 = .ok (.iload 5, 2) := by decide +kernel
theorem dX7_command_205 : decode cX7_command 205 = .ok (.ifCond .ne 14, 3) := by decide +kernel
theorem dX7_command_208 : decode cX7_command 208 = .ok (.aload_n 0, 1) := by decide +kernel
theorem dX7_command_209 : decode cX7_command 209 = .ok (.getfield 55, 3) := by decide +kernel
theorem dX7_command_212 : decode cX7_command 212 = .ok (.aload_n 0, 1) := by decide +kernel
theorem dX7_command_213 : decode cX7_command 213 = .ok (.getfield 10, 3) := by decide +kernel
theorem dX7_command_216 : decode cX7_command 216 = .ok (.invokevirtual 303, 3) := by decide +kernel
theorem dX7_command_219 : decode cX7_command 219 = .ok (.return_, 1) := by decide +kernel
theorem dX7_pageCommand_0 : decode cX7_pageCommand 0 = .ok (.aload_n 0, 1) := by decide +kernel
theorem dX7_pageCommand_1 : decode cX7_pageCommand 1 = .ok (.getfield 10, 3) := by decide +kernel
theorem dX7_pageCommand_4 : decode cX7_pageCommand 4 = .ok (.getfield 306, 3) := by decide +kernel
theorem dX7_pageCommand_7 : decode cX7_pageCommand 7 = .ok (.tableswitch 251 65 88 #[109, 251, 170, 185, 193, 209, 251, 251, 251, 251, 251, 225, 251, 251, 131, 251, 251, 251, 251, 251, 251, 251, 251, 154], 109) := by decide +kernel
theorem dX7_pageCommand_116 : decode cX7_pageCommand 116 = .ok (.lload_n 3, 1) := by decide +kernel
theorem dX7_pageCommand_117 : decode cX7_pageCommand 117 = .ok (.invokestatic 309, 3) := by decide +kernel
theorem dX7_pageCommand_120 : decode cX7_pageCommand 120 = .ok (.ifCond .eq 16, 3) := by decide +kernel
theorem dX7_pageCommand_123 : decode cX7_pageCommand 123 = .ok (.aload_n 0, 1) := by decide +kernel
theorem dX7_pageCommand_124 : decode cX7_pageCommand 124 = .ok (.lload_n 3, 1) := by decide +kernel
theorem dX7_pageCommand_125 : decode cX7_pageCommand 125 = .ok (.l2i, 1) := by decide +kernel
theorem dX7_pageCommand_126 : decode cX7_pageCommand 126 = .ok (.aload_n 0, 1) := by decide +kernel
theorem dX7_pageCommand_127 : decode cX7_pageCommand 127 = .ok (.getfield 19, 3) := by decide +kernel
theorem dX7_pageCommand_130 : decode cX7_pageCommand 130 = .ok (.getfield 169, 3) := by decide +kernel
theorem dX7_pageCommand_133 : decode cX7_pageCommand 133 = .ok (.invokevirtual 312, 3) := by decide +kernel
theorem dX7_pageCommand_136 : decode cX7_pageCommand 136 = .ok (.iconst 1, 1) := by decide +kernel
theorem dX7_pageCommand_137 : decode cX7_pageCommand 137 = .ok (.ireturn, 1) := by decide +kernel
theorem dX7_pageCommand_138 : decode cX7_pageCommand 138 = .ok (.lload_n 3, 1) := by decide +kernel
theorem dX7_pageCommand_139 : decode cX7_pageCommand 139 = .ok (.ldc2_w 315, 3) := by decide +kernel
theorem dX7_pageCommand_142 : decode cX7_pageCommand 142 = .ok (.lcmp, 1) := by decide +kernel
theorem dX7_pageCommand_143 : decode cX7_pageCommand 143 = .ok (.ifCond .gt 16, 3) := by decide +kernel
theorem dX7_pageCommand_146 : decode cX7_pageCommand 146 = .ok (.aload_n 0, 1) := by decide +kernel
theorem dX7_pageCommand_147 : decode cX7_pageCommand 147 = .ok (.aload_n 0, 1) := by decide +kernel
theorem dX7_pageCommand_148 : decode cX7_pageCommand 148 = .ok (.getfield 19, 3) := by decide +kernel
theorem dX7_pageCommand_151 : decode cX7_pageCommand 151 = .ok (.getfield 166, 3) := by decide +kernel
theorem dX7_pageCommand_154 : decode cX7_pageCommand 154 = .ok (.lload_n 3, 1) := by decide +kernel
theorem dX7_pageCommand_155 : decode cX7_pageCommand 155 = .ok (.l2i, 1) := by decide +kernel
theorem dX7_pageCommand_156 : decode cX7_pageCommand 156 = .ok (.invokevirtual 312, 3) := by decide +kernel
theorem dX7_pageCommand_159 : decode cX7_pageCommand 159 = .ok (.iconst 1, 1) := by decide +kernel
theorem dX7_pageCommand_160 : decode cX7_pageCommand 160 = .ok (.ireturn, 1) := by decide +kernel
theorem dX7_pageCommand_161 : decode cX7_pageCommand 161 = .ok (.aload_n 0, 1) := by decide +kernel
theorem dX7_pageCommand_162 : decode cX7_pageCommand 162 = .ok (.getfield 19, 3) := by decide +kernel
theorem dX7_pageCommand_165 : decode cX7_pageCommand 165 = .ok (.lload_n 3, 1) := by decide +kernel
theorem dX7_pageCommand_166 : decode cX7_pageCommand 166 = .ok (.iconst 1, 1) := by decide +kernel
theorem dX7_pageCommand_167 : decode cX7_pageCommand 167 = .ok (.bipush 99, 2) := by decide +kernel
theorem dX7_pageCommand_169 : decode cX7_pageCommand 169 = .ok (.invokestatic 98, 3) := by decide +kernel
theorem dX7_pageCommand_172 : decode cX7_pageCommand 172 = .ok (.putfield 181, 3) := by decide +kernel
theorem dX7_pageCommand_175 : decode cX7_pageCommand 175 = .ok (.iconst 1, 1) := by decide +kernel
theorem dX7_pageCommand_176 : decode cX7_pageCommand 176 = .ok (.ireturn, 1) := by decide +kernel
theorem dX7_pageCommand_177 : decode cX7_pageCommand 177 = .ok (.aload_n 0, 1) := by decide +kernel
theorem dX7_pageCommand_178 : decode cX7_pageCommand 178 = .ok (.ldc2_w 317, 3) := by decide +kernel
theorem dX7_pageCommand_181 : decode cX7_pageCommand 181 = .ok (.lload_n 1, 1) := by decide +kernel
theorem dX7_pageCommand_182 : decode cX7_pageCommand 182 = .ok (.lmul, 1) := by decide +kernel
theorem dX7_pageCommand_183 : decode cX7_pageCommand 183 = .ok (.ldc2_w 269, 3) := by decide +kernel
theorem dX7_pageCommand_186 : decode cX7_pageCommand 186 = .ok (.ldiv, 1) := by decide +kernel
theorem dX7_pageCommand_187 : decode cX7_pageCommand 187 = .ok (.invokevirtual 319, 3) := by decide +kernel
theorem dX7_pageCommand_190 : decode cX7_pageCommand 190 = .ok (.iconst 1, 1) := by decide +kernel
theorem dX7_pageCommand_191 : decode cX7_pageCommand 191 = .ok (.ireturn, 1) := by decide +kernel
theorem dX7_pageCommand_192 : decode cX7_pageCommand 192 = .ok (.aload_n 0, 1) := by decide +kernel
theorem dX7_pageCommand_193 : decode cX7_pageCommand 193 = .ok (.lload_n 3, 1) := by decide +kernel
theorem dX7_pageCommand_194 : decode cX7_pageCommand 194 = .ok (.l2i, 1) := by decide +kernel
theorem dX7_pageCommand_195 : decode cX7_pageCommand 195 = .ok (.invokevirtual 322, 3) := by decide +kernel
theorem dX7_pageCommand_198 : decode cX7_pageCommand 198 = .ok (.iconst 1, 1) := by decide +kernel
theorem dX7_pageCommand_199 : decode cX7_pageCommand 199 = .ok (.ireturn, 1) := by decide +kernel
theorem dX7_pageCommand_200 : decode cX7_pageCommand 200 = .ok (.aload_n 0, 1) := by decide +kernel
theorem dX7_pageCommand_201 : decode cX7_pageCommand 201 = .ok (.lload_n 3, 1) := by decide +kernel
theorem dX7_pageCommand_202 : decode cX7_pageCommand 202 = .ok (.aload_n 0, 1) := by decide +kernel
theorem dX7_pageCommand_203 : decode cX7_pageCommand 203 = .ok (.getfield 26, 3) := by decide +kernel
theorem dX7_pageCommand_206 : decode cX7_pageCommand 206 = .ok (.getfield 160, 3) := by decide +kernel
theorem dX7_pageCommand_209 : decode cX7_pageCommand 209 = .ok (.i2l, 1) := by decide +kernel
theorem dX7_pageCommand_210 : decode cX7_pageCommand 210 = .ok (.lmul, 1) := by decide +kernel
theorem dX7_pageCommand_211 : decode cX7_pageCommand 211 = .ok (.invokevirtual 325, 3) := by decide +kernel
theorem dX7_pageCommand_214 : decode cX7_pageCommand 214 = .ok (.iconst 1, 1) := by decide +kernel
theorem dX7_pageCommand_215 : decode cX7_pageCommand 215 = .ok (.ireturn, 1) := by decide +kernel
theorem dX7_pageCommand_216 : decode cX7_pageCommand 216 = .ok (.aload_n 0, 1) := by decide +kernel
theorem dX7_pageCommand_217 : decode cX7_pageCommand 217 = .ok (.lload_n 3, 1) := by decide +kernel
theorem dX7_pageCommand_218 : decode cX7_pageCommand 218 = .ok (.aload_n 0, 1) := by decide +kernel
theorem dX7_pageCommand_219 : decode cX7_pageCommand 219 = .ok (.getfield 26, 3) := by decide +kernel
theorem dX7_pageCommand_222 : decode cX7_pageCommand 222 = .ok (.getfield 160, 3) := by decide +kernel
theorem dX7_pageCommand_225 : decode cX7_pageCommand 225 = .ok (.i2l, 1) := by decide +kernel
theorem dX7_pageCommand_226 : decode cX7_pageCommand 226 = .ok (.lmul, 1) := by decide +kernel
theorem dX7_pageCommand_227 : decode cX7_pageCommand 227 = .ok (.invokevirtual 328, 3) := by decide +kernel
theorem dX7_pageCommand_230 : decode cX7_pageCommand 230 = .ok (.iconst 1, 1) := by decide +kernel
theorem dX7_pageCommand_231 : decode cX7_pageCommand 231 = .ok (.ireturn, 1) := by decide +kernel
theorem dX7_pageCommand_232 : decode cX7_pageCommand 232 = .ok (.lload_n 3, 1) := by decide +kernel
theorem dX7_pageCommand_233 : decode cX7_pageCommand 233 = .ok (.lconst 1, 1) := by decide +kernel
theorem dX7_pageCommand_234 : decode cX7_pageCommand 234 = .ok (.lcmp, 1) := by decide +kernel
theorem dX7_pageCommand_235 : decode cX7_pageCommand 235 = .ok (.ifCond .gt 21, 3) := by decide +kernel
theorem dX7_pageCommand_238 : decode cX7_pageCommand 238 = .ok (.aload_n 0, 1) := by decide +kernel
theorem dX7_pageCommand_239 : decode cX7_pageCommand 239 = .ok (.getfield 26, 3) := by decide +kernel
theorem dX7_pageCommand_242 : decode cX7_pageCommand 242 = .ok (.lload_n 3, 1) := by decide +kernel
theorem dX7_pageCommand_243 : decode cX7_pageCommand 243 = .ok (.lconst 1, 1) := by decide +kernel
theorem dX7_pageCommand_244 : decode cX7_pageCommand 244 = .ok (.lcmp, 1) := by decide +kernel
theorem dX7_pageCommand_245 : decode cX7_pageCommand 245 = .ok (.ifCond .ne 7, 3) := by decide +kernel
theorem dX7_pageCommand_248 : decode cX7_pageCommand 248 = .ok (.iconst 1, 1) := by decide +kernel
theorem dX7_pageCommand_249 : decode cX7_pageCommand 249 = .ok (.goto 4, 3) := by decide +kernel
theorem dX7_pageCommand_252 : decode cX7_pageCommand 252 = .ok (.iconst 0, 1) := by decide +kernel
theorem dX7_pageCommand_253 : decode cX7_pageCommand 253 = .ok (.putfield 175, 3) := by decide +kernel
theorem dX7_pageCommand_256 : decode cX7_pageCommand 256 = .ok (.iconst 1, 1) := by decide +kernel
theorem dX7_pageCommand_257 : decode cX7_pageCommand 257 = .ok (.ireturn, 1) := by decide +kernel
theorem dX7_pageCommand_258 : decode cX7_pageCommand 258 = .ok (.iconst 0, 1) := by decide +kernel
theorem dX7_pageCommand_259 : decode cX7_pageCommand 259 = .ok (.ireturn, 1) := by decide +kernel
theorem dX7_setStepDown_0 : decode cX7_setStepDown 0 = .ok (.lload_n 1, 1) := by decide +kernel
theorem dX7_setStepDown_1 : decode cX7_setStepDown 1 = .ok (.aload_n 0, 1) := by decide +kernel
theorem dX7_setStepDown_2 : decode cX7_setStepDown 2 = .ok (.getfield 19, 3) := by decide +kernel
theorem dX7_setStepDown_5 : decode cX7_setStepDown 5 = .ok (.getfield 163, 3) := by decide +kernel
theorem dX7_setStepDown_8 : decode cX7_setStepDown 8 = .ok (.i2l, 1) := by decide +kernel
theorem dX7_setStepDown_9 : decode cX7_setStepDown 9 = .ok (.lcmp, 1) := by decide +kernel
theorem dX7_setStepDown_10 : decode cX7_setStepDown 10 = .ok (.ifCond .gt 12, 3) := by decide +kernel
theorem dX7_setStepDown_13 : decode cX7_setStepDown 13 = .ok (.aload_n 0, 1) := by decide +kernel
theorem dX7_setStepDown_14 : decode cX7_setStepDown 14 = .ok (.getfield 26, 3) := by decide +kernel
theorem dX7_setStepDown_17 : decode cX7_setStepDown 17 = .ok (.lload_n 1, 1) := by decide +kernel
theorem dX7_setStepDown_18 : decode cX7_setStepDown 18 = .ok (.l2i, 1) := by decide +kernel
theorem dX7_setStepDown_19 : decode cX7_setStepDown 19 = .ok (.putfield 160, 3) := by decide +kernel
theorem dX7_setStepDown_22 : decode cX7_setStepDown 22 = .ok (.return_, 1) := by decide +kernel
theorem dX7_setLinesPerInch_0 : decode cX7_setLinesPerInch 0 = .ok (.iload_n 1, 1) := by decide +kernel
theorem dX7_setLinesPerInch_1 : decode cX7_setLinesPerInch 1 = .ok (.lookupswitch 106 #[(1, 91), (2, 91), (3, 91), (4, 91), (6, 91), (8, 91), (12, 91), (16, 91), (24, 91), (48, 91)], 91) := by decide +kernel
theorem dX7_setLinesPerInch_92 : decode cX7_setLinesPerInch 92 = .ok (.aload_n 0, 1) := by decide +kernel
theorem dX7_setLinesPerInch_93 : decode cX7_setLinesPerInch 93 = .ok (.getfield 26, 3) := by decide +kernel
theorem dX7_setLinesPerInch_96 : decode cX7_setLinesPerInch 96 = .ok (.sipush 7200, 3) := by decide +kernel
theorem dX7_setLinesPerInch_99 : decode cX7_setLinesPerInch 99 = .ok (.iload_n 1, 1) := by decide +kernel
theorem dX7_setLinesPerInch_100 : decode cX7_setLinesPerInch 100 = .ok (.idiv, 1) := by decide +kernel
theorem dX7_setLinesPerInch_101 : decode cX7_setLinesPerInch 101 = .ok (.putfield 160, 3) := by decide +kernel
theorem dX7_setLinesPerInch_104 : decode cX7_setLinesPerInch 104 = .ok (.goto 3, 3) := by decide +kernel
theorem dX7_setLinesPerInch_107 : decode cX7_setLinesPerInch 107 = .ok (.return_, 1) := by decide +kernel
theorem dX7_setTop_0 : decode cX7_setTop 0 = .ok (.lload_n 1, 1) := by decide +kernel
theorem dX7_setTop_1 : decode cX7_setTop 1 = .ok (.aload_n 0, 1) := by decide +kernel
theorem dX7_setTop_2 : decode cX7_setTop 2 = .ok (.getfield 19, 3) := by decide +kernel
theorem dX7_setTop_5 : decode cX7_setTop 5 = .ok (.getfield 163, 3) := by decide +kernel
theorem dX7_setTop_8 : decode cX7_setTop 8 = .ok (.i2l, 1) := by decide +kernel
theorem dX7_setTop_9 : decode cX7_setTop 9 = .ok (.lcmp, 1) := by decide +kernel
theorem dX7_setTop_10 : decode cX7_setTop 10 = .ok (.ifCond .gt 44, 3) := by decide +kernel
theorem dX7_setTop_13 : decode cX7_setTop 13 = .ok (.aload_n 0, 1) := by decide +kernel
theorem dX7_setTop_14 : decode cX7_setTop 14 = .ok (.getfield 26, 3) := by decide +kernel
theorem dX7_setTop_17 : decode cX7_setTop 17 = .ok (.lload_n 1, 1) := by decide +kernel
theorem dX7_setTop_18 : decode cX7_setTop 18 = .ok (.l2i, 1) := by decide +kernel
theorem dX7_setTop_19 : decode cX7_setTop 19 = .ok (.putfield 151, 3) := by decide +kernel
theorem dX7_setTop_22 : decode cX7_setTop 22 = .ok (.aload_n 0, 1) := by decide +kernel
theorem dX7_setTop_23 : decode cX7_setTop 23 = .ok (.getfield 26, 3) := by decide +kernel
theorem dX7_setTop_26 : decode cX7_setTop 26 = .ok (.aload_n 0, 1) := by decide +kernel
theorem dX7_setTop_27 : decode cX7_setTop 27 = .ok (.getfield 19, 3) := by decide +kernel
theorem dX7_setTop_30 : decode cX7_setTop 30 = .ok (.getfield 163, 3) := by decide +kernel
theorem dX7_setTop_33 : decode cX7_setTop 33 = .ok (.i2l, 1) := by decide +kernel
theorem dX7_setTop_34 : decode cX7_setTop 34 = .ok (.lload_n 1, 1) := by decide +kernel
theorem dX7_setTop_35 : decode cX7_setTop 35 = .ok (.lsub, 1) := by decide +kernel
theorem dX7_setTop_36 : decode cX7_setTop 36 = .ok (.ldc2_w 331, 3) := by decide +kernel
theorem dX7_setTop_39 : decode cX7_setTop 39 = .ok (.lsub, 1) := by decide +kernel
theorem dX7_setTop_40 : decode cX7_setTop 40 = .ok (.iconst 0, 1) := by decide +kernel
theorem dX7_setTop_41 : decode cX7_setTop 41 = .ok (.aload_n 0, 1) := by decide +kernel
theorem dX7_setTop_42 : decode cX7_setTop 42 = .ok (.getfield 19, 3) := by decide +kernel
theorem dX7_setTop_45 : decode cX7_setTop 45 = .ok (.getfield 163, 3) := by decide +kernel
theorem dX7_setTop_48 : decode cX7_setTop 48 = .ok (.invokestatic 98, 3) := by decide +kernel
theorem dX7_setTop_51 : decode cX7_setTop 51 = .ok (.putfield 154, 3) := by decide +kernel
theorem dX7_setTop_54 : decode cX7_setTop 54 = .ok (.return_, 1) := by decide +kernel
theorem dX7_setLength_0 : decode cX7_setLength 0 = .ok (.aload_n 0, 1) := by decide +kernel
theorem dX7_setLength_1 : decode cX7_setLength 1 = .ok (.getfield 26, 3) := by decide +kernel
theorem dX7_setLength_4 : decode cX7_setLength 4 = .ok (.getfield 151, 3) := by decide +kernel
theorem dX7_setLength_7 : decode cX7_setLength 7 = .ok (.i2l, 1) := by decide +kernel
theorem dX7_setLength_8 : decode cX7_setLength 8 = .ok (.lload_n 1, 1) := by decide +kernel
theorem dX7_setLength_9 : decode cX7_setLength 9 = .ok (.ladd, 1) := by decide +kernel
theorem dX7_setLength_10 : decode cX7_setLength 10 = .ok (.aload_n 0, 1) := by decide +kernel
theorem dX7_setLength_11 : decode cX7_setLength 11 = .ok (.getfield 19, 3) := by decide +kernel
theorem dX7_setLength_14 : decode cX7_setLength 14 = .ok (.getfield 163, 3) := by decide +kernel
theorem dX7_setLength_17 : decode cX7_setLength 17 = .ok (.i2l, 1) := by decide +kernel
theorem dX7_setLength_18 : decode cX7_setLength 18 = .ok (.lcmp, 1) := by decide +kernel
theorem dX7_setLength_19 : decode cX7_setLength 19 = .ok (.ifCond .gt 12, 3) := by decide +kernel
theorem dX7_setLength_22 : decode cX7_setLength 22 = .ok (.aload_n 0, 1) := by decide +kernel
theorem dX7_setLength_23 : decode cX7_setLength 23 = .ok (.getfield 26, 3) := by decide +kernel
theorem dX7_setLength_26 : decode cX7_setLength 26 = .ok (.lload_n 1, 1) := by decide +kernel
theorem dX7_setLength_27 : decode cX7_setLength 27 = .ok (.l2i, 1) := by decide +kernel
theorem dX7_setLength_28 : decode cX7_setLength 28 = .ok (.putfield 154, 3) := by decide +kernel
theorem dX7_setLength_31 : decode cX7_setLength 31 = .ok (.return_, 1) := by decide +kernel
theorem dX7_spacingCommand_0 : decode cX7_spacingCommand 0 = .ok (.aload_n 0, 1) := by decide +kernel
theorem dX7_spacingCommand_1 : decode cX7_spacingCommand 1 = .ok (.getfield 10, 3) := by decide +kernel
theorem dX7_spacingCommand_4 : decode cX7_spacingCommand 4 = .ok (.getfield 306, 3) := by decide +kernel
theorem dX7_spacingCommand_7 : decode cX7_spacingCommand 7 = .ok (.lookupswitch 63 #[(71, 44), (72, 25)], 25) := by decide +kernel
theorem dX7_spacingCommand_32 : decode cX7_spacingCommand 32 = .ok (.aload_n 0, 1) := by decide +kernel
theorem dX7_spacingCommand_33 : decode cX7_spacingCommand 33 = .ok (.getfield 26, 3) := by decide +kernel
theorem dX7_spacingCommand_36 : decode cX7_spacingCommand 36 = .ok (.ldc2_w 333, 3) := by decide +kernel
theorem dX7_spacingCommand_39 : decode cX7_spacingCommand 39 = .ok (.lload_n 1, 1) := by decide +kernel
theorem dX7_spacingCommand_40 : decode cX7_spacingCommand 40 = .ok (.lmul, 1) := by decide +kernel
theorem dX7_spacingCommand_41 : decode cX7_spacingCommand 41 = .ok (.ldc2_w 269, 3) := by decide +kernel
theorem dX7_spacingCommand_44 : decode cX7_spacingCommand 44 = .ok (.ldiv, 1) := by decide +kernel
theorem dX7_spacingCommand_45 : decode cX7_spacingCommand 45 = .ok (.l2i, 1) := by decide +kernel
theorem dX7_spacingCommand_46 : decode cX7_spacingCommand 46 = .ok (.putfield 157, 3) := by decide +kernel
theorem dX7_spacingCommand_49 : decode cX7_spacingCommand 49 = .ok (.iconst 1, 1) := by decide +kernel
theorem dX7_spacingCommand_50 : decode cX7_spacingCommand 50 = .ok (.ireturn, 1) := by decide +kernel
theorem dX7_spacingCommand_51 : decode cX7_spacingCommand 51 = .ok (.lload_n 3, 1) := by decide +kernel
theorem dX7_spacingCommand_52 : decode cX7_spacingCommand 52 = .ok (.ldc2_w 315, 3) := by decide +kernel
theorem dX7_spacingCommand_55 : decode cX7_spacingCommand 55 = .ok (.lcmp, 1) := by decide +kernel
theorem dX7_spacingCommand_56 : decode cX7_spacingCommand 56 = .ok (.ifCond .gt 12, 3) := by decide +kernel
theorem dX7_spacingCommand_59 : decode cX7_spacingCommand 59 = .ok (.aload_n 0, 1) := by decide +kernel
theorem dX7_spacingCommand_60 : decode cX7_spacingCommand 60 = .ok (.getfield 26, 3) := by decide +kernel
theorem dX7_spacingCommand_63 : decode cX7_spacingCommand 63 = .ok (.lload_n 3, 1) := by decide +kernel
theorem dX7_spacingCommand_64 : decode cX7_spacingCommand 64 = .ok (.l2i, 1) := by decide +kernel
theorem dX7_spacingCommand_65 : decode cX7_spacingCommand 65 = .ok (.putfield 178, 3) := by decide +kernel
theorem dX7_spacingCommand_68 : decode cX7_spacingCommand 68 = .ok (.iconst 1, 1) := by decide +kernel
theorem dX7_spacingCommand_69 : decode cX7_spacingCommand 69 = .ok (.ireturn, 1) := by decide +kernel
theorem dX7_spacingCommand_70 : decode cX7_spacingCommand 70 = .ok (.iconst 0, 1) := by decide +kernel
theorem dX7_spacingCommand_71 : decode cX7_spacingCommand 71 = .ok (.ireturn, 1) := by decide +kernel
theorem dX7_marginCommand_0 : decode cX7_marginCommand 0 = .ok (.aload_n 0, 1) := by decide +kernel
theorem dX7_marginCommand_1 : decode cX7_marginCommand 1 = .ok (.getfield 10, 3) := by decide +kernel
theorem dX7_marginCommand_4 : decode cX7_marginCommand 4 = .ok (.getfield 306, 3) := by decide +kernel
theorem dX7_marginCommand_7 : decode cX7_marginCommand 7 = .ok (.lookupswitch 59 #[(76, 25), (77, 41)], 25) := by decide +kernel
theorem dX7_marginCommand_32 : decode cX7_marginCommand 32 = .ok (.aload_n 0, 1) := by decide +kernel
theorem dX7_marginCommand_33 : decode cX7_marginCommand 33 = .ok (.lload_n 1, 1) := by decide +kernel
theorem dX7_marginCommand_34 : decode cX7_marginCommand 34 = .ok (.aload_n 0, 1) := by decide +kernel
theorem dX7_marginCommand_35 : decode cX7_marginCommand 35 = .ok (.getfield 26, 3) := by decide +kernel
theorem dX7_marginCommand_38 : decode cX7_marginCommand 38 = .ok (.getfield 157, 3) := by decide +kernel
theorem dX7_marginCommand_41 : decode cX7_marginCommand 41 = .ok (.i2l, 1) := by decide +kernel
theorem dX7_marginCommand_42 : decode cX7_marginCommand 42 = .ok (.lmul, 1) := by decide +kernel
theorem dX7_marginCommand_43 : decode cX7_marginCommand 43 = .ok (.invokevirtual 335, 3) := by decide +kernel
theorem dX7_marginCommand_46 : decode cX7_marginCommand 46 = .ok (.iconst 1, 1) := by decide +kernel
theorem dX7_marginCommand_47 : decode cX7_marginCommand 47 = .ok (.ireturn, 1) := by decide +kernel
theorem dX7_marginCommand_48 : decode cX7_marginCommand 48 = .ok (.aload_n 0, 1) := by decide +kernel
theorem dX7_marginCommand_49 : decode cX7_marginCommand 49 = .ok (.lload_n 1, 1) := by decide +kernel
theorem dX7_marginCommand_50 : decode cX7_marginCommand 50 = .ok (.lconst 1, 1) := by decide +kernel
theorem dX7_marginCommand_51 : decode cX7_marginCommand 51 = .ok (.ladd, 1) := by decide +kernel
theorem dX7_marginCommand_52 : decode cX7_marginCommand 52 = .ok (.aload_n 0, 1) := by decide +kernel
theorem dX7_marginCommand_53 : decode cX7_marginCommand 53 = .ok (.getfield 26, 3) := by decide +kernel
theorem dX7_marginCommand_56 : decode cX7_marginCommand 56 = .ok (.getfield 157, 3) := by decide +kernel
theorem dX7_marginCommand_59 : decode cX7_marginCommand 59 = .ok (.i2l, 1) := by decide +kernel
theorem dX7_marginCommand_60 : decode cX7_marginCommand 60 = .ok (.lmul, 1) := by decide +kernel
theorem dX7_marginCommand_61 : decode cX7_marginCommand 61 = .ok (.invokevirtual 338, 3) := by decide +kernel
theorem dX7_marginCommand_64 : decode cX7_marginCommand 64 = .ok (.iconst 1, 1) := by decide +kernel
theorem dX7_marginCommand_65 : decode cX7_marginCommand 65 = .ok (.ireturn, 1) := by decide +kernel
theorem dX7_marginCommand_66 : decode cX7_marginCommand 66 = .ok (.iconst 0, 1) := by decide +kernel
theorem dX7_marginCommand_67 : decode cX7_marginCommand 67 = .ok (.ireturn, 1) := by decide +kernel
theorem dX7_setLeft_0 : decode cX7_setLeft 0 = .ok (.lload_n 1, 1) := by decide +kernel
theorem dX7_setLeft_1 : decode cX7_setLeft 1 = .ok (.aload_n 0, 1) := by decide +kernel
theorem dX7_setLeft_2 : decode cX7_setLeft 2 = .ok (.getfield 26, 3) := by decide +kernel
theorem dX7_setLeft_5 : decode cX7_setLeft 5 = .ok (.getfield 102, 3) := by decide +kernel
theorem dX7_setLeft_8 : decode cX7_setLeft 8 = .ok (.i2l, 1) := by decide +kernel
theorem dX7_setLeft_9 : decode cX7_setLeft 9 = .ok (.lcmp, 1) := by decide +kernel
theorem dX7_setLeft_10 : decode cX7_setLeft 10 = .ok (.ifCond .ge 43, 3) := by decide +kernel
theorem dX7_setLeft_13 : decode cX7_setLeft 13 = .ok (.aload_n 0, 1) := by decide +kernel
theorem dX7_setLeft_14 : decode cX7_setLeft 14 = .ok (.getfield 26, 3) := by decide +kernel
theorem dX7_setLeft_17 : decode cX7_setLeft 17 = .ok (.lload_n 1, 1) := by decide +kernel
theorem dX7_setLeft_18 : decode cX7_setLeft 18 = .ok (.l2i, 1) := by decide +kernel
theorem dX7_setLeft_19 : decode cX7_setLeft 19 = .ok (.putfield 91, 3) := by decide +kernel
theorem dX7_setLeft_22 : decode cX7_setLeft 22 = .ok (.aload_n 0, 1) := by decide +kernel
theorem dX7_setLeft_23 : decode cX7_setLeft 23 = .ok (.getfield 26, 3) := by decide +kernel
theorem dX7_setLeft_26 : decode cX7_setLeft 26 = .ok (.getfield 105, 3) := by decide +kernel
theorem dX7_setLeft_29 : decode cX7_setLeft 29 = .ok (.aload_n 0, 1) := by decide +kernel
theorem dX7_setLeft_30 : decode cX7_setLeft 30 = .ok (.getfield 26, 3) := by decide +kernel
theorem dX7_setLeft_33 : decode cX7_setLeft 33 = .ok (.getfield 91, 3) := by decide +kernel
theorem dX7_setLeft_36 : decode cX7_setLeft 36 = .ok (.if_icmp .ge 17, 3) := by decide +kernel
theorem dX7_setLeft_39 : decode cX7_setLeft 39 = .ok (.aload_n 0, 1) := by decide +kernel
theorem dX7_setLeft_40 : decode cX7_setLeft 40 = .ok (.getfield 26, 3) := by decide +kernel
theorem dX7_setLeft_43 : decode cX7_setLeft 43 = .ok (.aload_n 0, 1) := by decide +kernel
theorem dX7_setLeft_44 : decode cX7_setLeft 44 = .ok (.getfield 26, 3) := by decide +kernel
theorem dX7_setLeft_47 : decode cX7_setLeft 47 = .ok (.getfield 91, 3) := by decide +kernel
theorem dX7_setLeft_50 : decode cX7_setLeft 50 = .ok (.putfield 105, 3) := by decide +kernel
theorem dX7_setLeft_53 : decode cX7_setLeft 53 = .ok (.return_, 1) := by decide +kernel
theorem dX7_setRight_0 : decode cX7_setRight 0 = .ok (.lload_n 1, 1) := by decide +kernel
theorem dX7_setRight_1 : decode cX7_setRight 1 = .ok (.aload_n 0, 1) := by decide +kernel
theorem dX7_setRight_2 : decode cX7_setRight 2 = .ok (.getfield 26, 3) := by decide +kernel
theorem dX7_setRight_5 : decode cX7_setRight 5 = .ok (.getfield 91, 3) := by decide +kernel
theorem dX7_setRight_8 : decode cX7_setRight 8 = .ok (.i2l, 1) := by decide +kernel
theorem dX7_setRight_9 : decode cX7_setRight 9 = .ok (.lcmp, 1) := by decide +kernel
theorem dX7_setRight_10 : decode cX7_setRight 10 = .ok (.ifCond .le 53, 3) := by decide +kernel
theorem dX7_setRight_13 : decode cX7_setRight 13 = .ok (.aload_n 0, 1) := by decide +kernel
theorem dX7_setRight_14 : decode cX7_setRight 14 = .ok (.getfield 26, 3) := by decide +kernel
theorem dX7_setRight_17 : decode cX7_setRight 17 = .ok (.lload_n 1, 1) := by decide +kernel
theorem dX7_setRight_18 : decode cX7_setRight 18 = .ok (.iconst 0, 1) := by decide +kernel
theorem dX7_setRight_19 : decode cX7_setRight 19 = .ok (.aload_n 0, 1) := by decide +kernel
theorem dX7_setRight_20 : decode cX7_setRight 20 = .ok (.getfield 19, 3) := by decide +kernel
theorem dX7_setRight_23 : decode cX7_setRight 23 = .ok (.getfield 95, 3) := by decide +kernel
theorem dX7_setRight_26 : decode cX7_setRight 26 = .ok (.invokestatic 98, 3) := by decide +kernel
theorem dX7_setRight_29 : decode cX7_setRight 29 = .ok (.putfield 102, 3) := by decide +kernel
theorem dX7_setRight_32 : decode cX7_setRight 32 = .ok (.aload_n 0, 1) := by decide +kernel
theorem dX7_setRight_33 : decode cX7_setRight 33 = .ok (.getfield 26, 3) := by decide +kernel
theorem dX7_setRight_36 : decode cX7_setRight 36 = .ok (.getfield 105, 3) := by decide +kernel
theorem dX7_setRight_39 : decode cX7_setRight 39 = .ok (.aload_n 0, 1) := by decide +kernel
theorem dX7_setRight_40 : decode cX7_setRight 40 = .ok (.getfield 26, 3) := by decide +kernel
theorem dX7_setRight_43 : decode cX7_setRight 43 = .ok (.getfield 102, 3) := by decide +kernel
theorem dX7_setRight_46 : decode cX7_setRight 46 = .ok (.if_icmp .le 17, 3) := by decide +kernel
theorem dX7_setRight_49 : decode cX7_setRight 49 = .ok (.aload_n 0, 1) := by decide +kernel
theorem dX7_setRight_50 : decode cX7_setRight 50 = .ok (.getfield 26, 3) := by decide +kernel
theorem dX7_setRight_53 : decode cX7_setRight 53 = .ok (.aload_n 0, 1) := by decide +kernel
theorem dX7_setRight_54 : decode cX7_setRight 54 = .ok (.getfield 26, 3) := by decide +kernel
theorem dX7_setRight_57 : decode cX7_setRight 57 = .ok (.getfield 102, 3) := by decide +kernel
theorem dX7_setRight_60 : decode cX7_setRight 60 = .ok (.putfield 105, 3) := by decide +kernel
theorem dX7_setRight_63 : decode cX7_setRight 63 = .ok (.return_, 1) := by decide +kernel
theorem dX7_wrapCommand_0 : decode cX7_wrapCommand 0 = .ok (.aload_n 0, 1) := by decide +kernel
theorem dX7_wrapCommand_1 : decode cX7_wrapCommand 1 = .ok (.getfield 10, 3) := by decide +kernel
theorem dX7_wrapCommand_4 : decode cX7_wrapCommand 4 = .ok (.getfield 306, 3) := by decide +kernel
theorem dX7_wrapCommand_7 : decode cX7_wrapCommand 7 = .ok (.bipush 67, 2) := by decide +kernel
theorem dX7_wrapCommand_9 : decode cX7_wrapCommand 9 = .ok (.if_icmp .eq 5, 3) := by decide +kernel
theorem dX7_wrapCommand_12 : decode cX7_wrapCommand 12 = .ok (.iconst 0, 1) := by decide +kernel
theorem dX7_wrapCommand_13 : decode cX7_wrapCommand 13 = .ok (.ireturn, 1) := by decide +kernel
theorem dX7_wrapCommand_14 : decode cX7_wrapCommand 14 = .ok (.lload_n 1, 1) := by decide +kernel
theorem dX7_wrapCommand_15 : decode cX7_wrapCommand 15 = .ok (.lconst 1, 1) := by decide +kernel
theorem dX7_wrapCommand_16 : decode cX7_wrapCommand 16 = .ok (.lcmp, 1) := by decide +kernel
theorem dX7_wrapCommand_17 : decode cX7_wrapCommand 17 = .ok (.ifCond .gt 21, 3) := by decide +kernel
theorem dX7_wrapCommand_20 : decode cX7_wrapCommand 20 = .ok (.aload_n 0, 1) := by decide +kernel
theorem dX7_wrapCommand_21 : decode cX7_wrapCommand 21 = .ok (.getfield 26, 3) := by decide +kernel
theorem dX7_wrapCommand_24 : decode cX7_wrapCommand 24 = .ok (.lload_n 1, 1) := by decide +kernel
theorem dX7_wrapCommand_25 : decode cX7_wrapCommand 25 = .ok (.lconst 0, 1) := by decide +kernel
theorem dX7_wrapCommand_26 : decode cX7_wrapCommand 26 = .ok (.lcmp, 1) := by decide +kernel
theorem dX7_wrapCommand_27 : decode cX7_wrapCommand 27 = .ok (.ifCond .ne 7, 3) := by decide +kernel
theorem dX7_wrapCommand_30 : decode cX7_wrapCommand 30 = .ok (.iconst 1, 1) := by decide +kernel
theorem dX7_wrapCommand_31 : decode cX7_wrapCommand 31 = .ok (.goto 4, 3) := by decide +kernel
theorem dX7_wrapCommand_34 : decode cX7_wrapCommand 34 = .ok (.iconst 0, 1) := by decide +kernel
theorem dX7_wrapCommand_35 : decode cX7_wrapCommand 35 = .ok (.putfield 172, 3) := by decide +kernel
theorem dX7_wrapCommand_38 : decode cX7_wrapCommand 38 = .ok (.iconst 1, 1) := by decide +kernel
theorem dX7_wrapCommand_39 : decode cX7_wrapCommand 39 = .ok (.ireturn, 1) := by decide +kernel
theorem dX7_stackCommand_0 : decode cX7_stackCommand 0 = .ok (.aload_n 0, 1) := by decide +kernel
theorem dX7_stackCommand_1 : decode cX7_stackCommand 1 = .ok (.getfield 10, 3) := by decide +kernel
theorem dX7_stackCommand_4 : decode cX7_stackCommand 4 = .ok (.getfield 306, 3) := by decide +kernel
theorem dX7_stackCommand_7 : decode cX7_stackCommand 7 = .ok (.bipush 83, 2) := by decide +kernel
theorem dX7_stackCommand_9 : decode cX7_stackCommand 9 = .ok (.if_icmp .eq 5, 3) := by decide +kernel
theorem dX7_stackCommand_12 : decode cX7_stackCommand 12 = .ok (.iconst 0, 1) := by decide +kernel
theorem dX7_stackCommand_13 : decode cX7_stackCommand 13 = .ok (.ireturn, 1) := by decide +kernel
theorem dX7_stackCommand_14 : decode cX7_stackCommand 14 = .ok (.lload_n 1, 1) := by decide +kernel
theorem dX7_stackCommand_15 : decode cX7_stackCommand 15 = .ok (.lconst 0, 1) := by decide +kernel
theorem dX7_stackCommand_16 : decode cX7_stackCommand 16 = .ok (.lcmp, 1) := by decide +kernel
theorem dX7_stackCommand_17 : decode cX7_stackCommand 17 = .ok (.ifCond .ne 13, 3) := by decide +kernel
theorem dX7_stackCommand_20 : decode cX7_stackCommand 20 = .ok (.aload_n 0, 1) := by decide +kernel
theorem dX7_stackCommand_21 : decode cX7_stackCommand 21 = .ok (.getfield 26, 3) := by decide +kernel
theorem dX7_stackCommand_24 : decode cX7_stackCommand 24 = .ok (.invokevirtual 341, 3) := by decide +kernel
theorem dX7_stackCommand_27 : decode cX7_stackCommand 27 = .ok (.goto 72, 3) := by decide +kernel
theorem dX7_stackCommand_30 : decode cX7_stackCommand 30 = .ok (.lload_n 1, 1) := by decide +kernel
theorem dX7_stackCommand_31 : decode cX7_stackCommand 31 = .ok (.lconst 1, 1) := by decide +kernel
theorem dX7_stackCommand_32 : decode cX7_stackCommand 32 = .ok (.lcmp, 1) := by decide +kernel
theorem dX7_stackCommand_33 : decode cX7_stackCommand 33 = .ok (.ifCond .ne 66, 3) := by decide +kernel
theorem dX7_stackCommand_36 : decode cX7_stackCommand 36 = .ok (.aload_n 0, 1) := by decide +kernel
theorem dX7_stackCommand_37 : decode cX7_stackCommand 37 = .ok (.getfield 26, 3) := by decide +kernel
theorem dX7_stackCommand_40 : decode cX7_stackCommand 40 = .ok (.getfield 142, 3) := by decide +kernel
theorem dX7_stackCommand_43 : decode cX7_stackCommand 43 = .ok (.ifCond .le 56, 3) := by decide +kernel
theorem dX7_stackCommand_46 : decode cX7_stackCommand 46 = .ok (.aload_n 0, 1) := by decide +kernel
theorem dX7_stackCommand_47 : decode cX7_stackCommand 47 = .ok (.getfield 26, 3) := by decide +kernel
theorem dX7_stackCommand_50 : decode cX7_stackCommand 50 = .ok (.dup, 1) := by decide +kernel
theorem dX7_stackCommand_51 : decode cX7_stackCommand 51 = .ok (.getfield 142, 3) := by decide +kernel
theorem dX7_stackCommand_54 : decode cX7_stackCommand 54 = .ok (.iconst 1, 1) := by decide +kernel
theorem dX7_stackCommand_55 : decode cX7_stackCommand 55 = .ok (.isub, 1) := by decide +kernel
theorem dX7_stackCommand_56 : decode cX7_stackCommand 56 = .ok (.putfield 142, 3) := by decide +kernel
theorem dX7_stackCommand_59 : decode cX7_stackCommand 59 = .ok (.aload_n 0, 1) := by decide +kernel
theorem dX7_stackCommand_60 : decode cX7_stackCommand 60 = .ok (.aload_n 0, 1) := by decide +kernel
theorem dX7_stackCommand_61 : decode cX7_stackCommand 61 = .ok (.getfield 26, 3) := by decide +kernel
theorem dX7_stackCommand_64 : decode cX7_stackCommand 64 = .ok (.getfield 148, 3) := by decide +kernel
theorem dX7_stackCommand_67 : decode cX7_stackCommand 67 = .ok (.aload_n 0, 1) := by decide +kernel
theorem dX7_stackCommand_68 : decode cX7_stackCommand 68 = .ok (.getfield 26, 3) := by decide +kernel
theorem dX7_stackCommand_71 : decode cX7_stackCommand 71 = .ok (.getfield 142, 3) := by decide +kernel
theorem dX7_stackCommand_74 : decode cX7_stackCommand 74 = .ok (.iaload, 1) := by decide +kernel
theorem dX7_stackCommand_75 : decode cX7_stackCommand 75 = .ok (.i2l, 1) := by decide +kernel
theorem dX7_stackCommand_76 : decode cX7_stackCommand 76 = .ok (.invokevirtual 80, 3) := by decide +kernel
theorem dX7_stackCommand_79 : decode cX7_stackCommand 79 = .ok (.aload_n 0, 1) := by decide +kernel
theorem dX7_stackCommand_80 : decode cX7_stackCommand 80 = .ok (.aload_n 0, 1) := by decide +kernel
theorem dX7_stackCommand_81 : decode cX7_stackCommand 81 = .ok (.getfield 26, 3) := by decide +kernel
theorem dX7_stackCommand_84 : decode cX7_stackCommand 84 = .ok (.getfield 145, 3) := by decide +kernel
theorem dX7_stackCommand_87 : decode cX7_stackCommand 87 = .ok (.aload_n 0, 1) := by decide +kernel
theorem dX7_stackCommand_88 : decode cX7_stackCommand 88 = .ok (.getfield 26, 3) := by decide +kernel
theorem dX7_stackCommand_91 : decode cX7_stackCommand 91 = .ok (.getfield 142, 3) := by decide +kernel
theorem dX7_stackCommand_94 : decode cX7_stackCommand 94 = .ok (.iaload, 1) := by decide +kernel
theorem dX7_stackCommand_95 : decode cX7_stackCommand 95 = .ok (.i2l, 1) := by decide +kernel
theorem dX7_stackCommand_96 : decode cX7_stackCommand 96 = .ok (.invokevirtual 84, 3) := by decide +kernel
theorem dX7_stackCommand_99 : decode cX7_stackCommand 99 = .ok (.iconst 1, 1) := by decide +kernel
theorem dX7_stackCommand_100 : decode cX7_stackCommand 100 = .ok (.ireturn, 1) := by decide +kernel
theorem dX7_cursorCommand_0 : decode cX7_cursorCommand 0 = .ok (.aload_n 0, 1) := by decide +kernel
theorem dX7_cursorCommand_1 : decode cX7_cursorCommand 1 = .ok (.getfield 10, 3) := by decide +kernel
theorem dX7_cursorCommand_4 : decode cX7_cursorCommand 4 = .ok (.getfield 306, 3) := by decide +kernel
theorem dX7_cursorCommand_7 : decode cX7_cursorCommand 7 = .ok (.lookupswitch 101 #[(67, 41), (72, 55), (82, 64), (86, 85)], 41) := by decide +kernel
theorem dX7_cursorCommand_48 : decode cX7_cursorCommand 48 = .ok (.aload_n 0, 1) := by decide +kernel
theorem dX7_cursorCommand_49 : decode cX7_cursorCommand 49 = .ok (.aload_n 0, 1) := by decide +kernel
theorem dX7_cursorCommand_50 : decode cX7_cursorCommand 50 = .ok (.getfield 26, 3) := by decide +kernel
theorem dX7_cursorCommand_53 : decode cX7_cursorCommand 53 = .ok (.getfield 157, 3) := by decide +kernel
theorem dX7_cursorCommand_56 : decode cX7_cursorCommand 56 = .ok (.i2l, 1) := by decide +kernel
theorem dX7_cursorCommand_57 : decode cX7_cursorCommand 57 = .ok (.invokevirtual 344, 3) := by decide +kernel
theorem dX7_cursorCommand_60 : decode cX7_cursorCommand 60 = .ok (.iconst 1, 1) := by decide +kernel
theorem dX7_cursorCommand_61 : decode cX7_cursorCommand 61 = .ok (.ireturn, 1) := by decide +kernel
theorem dX7_cursorCommand_62 : decode cX7_cursorCommand 62 = .ok (.aload_n 0, 1) := by decide +kernel
theorem dX7_cursorCommand_63 : decode cX7_cursorCommand 63 = .ok (.ldc2_w 347, 3) := by decide +kernel
theorem dX7_cursorCommand_66 : decode cX7_cursorCommand 66 = .ok (.invokevirtual 344, 3) := by decide +kernel
theorem dX7_cursorCommand_69 : decode cX7_cursorCommand 69 = .ok (.iconst 1, 1) := by decide +kernel
theorem dX7_cursorCommand_70 : decode cX7_cursorCommand 70 = .ok (.ireturn, 1) := by decide +kernel
theorem dX7_cursorCommand_71 : decode cX7_cursorCommand 71 = .ok (.aload_n 0, 1) := by decide +kernel
theorem dX7_cursorCommand_72 : decode cX7_cursorCommand 72 = .ok (.aload_n 0, 1) := by decide +kernel
theorem dX7_cursorCommand_73 : decode cX7_cursorCommand 73 = .ok (.getfield 26, 3) := by decide +kernel
theorem dX7_cursorCommand_76 : decode cX7_cursorCommand 76 = .ok (.invokevirtual 225, 3) := by decide +kernel
theorem dX7_cursorCommand_79 : decode cX7_cursorCommand 79 = .ok (.aload_n 0, 1) := by decide +kernel
theorem dX7_cursorCommand_80 : decode cX7_cursorCommand 80 = .ok (.getfield 26, 3) := by decide +kernel
theorem dX7_cursorCommand_83 : decode cX7_cursorCommand 83 = .ok (.getfield 160, 3) := by decide +kernel
theorem dX7_cursorCommand_86 : decode cX7_cursorCommand 86 = .ok (.i2l, 1) := by decide +kernel
theorem dX7_cursorCommand_87 : decode cX7_cursorCommand 87 = .ok (.invokevirtual 349, 3) := by decide +kernel
theorem dX7_cursorCommand_90 : decode cX7_cursorCommand 90 = .ok (.iconst 1, 1) := by decide +kernel
theorem dX7_cursorCommand_91 : decode cX7_cursorCommand 91 = .ok (.ireturn, 1) := by decide +kernel
theorem dX7_cursorCommand_92 : decode cX7_cursorCommand 92 = .ok (.aload_n 0, 1) := by decide +kernel
theorem dX7_cursorCommand_93 : decode cX7_cursorCommand 93 = .ok (.aload_n 0, 1) := by decide +kernel
theorem dX7_cursorCommand_94 : decode cX7_cursorCommand 94 = .ok (.getfield 26, 3) := by decide +kernel
theorem dX7_cursorCommand_97 : decode cX7_cursorCommand 97 = .ok (.getfield 151, 3) := by decide +kernel
theorem dX7_cursorCommand_100 : decode cX7_cursorCommand 100 = .ok (.ldc2_w 347, 3) := by decide +kernel
theorem dX7_cursorCommand_103 : decode cX7_cursorCommand 103 = .ok (.invokevirtual 349, 3) := by decide +kernel
theorem dX7_cursorCommand_106 : decode cX7_cursorCommand 106 = .ok (.iconst 1, 1) := by decide +kernel
theorem dX7_cursorCommand_107 : decode cX7_cursorCommand 107 = .ok (.ireturn, 1) := by decide +kernel
theorem dX7_cursorCommand_108 : decode cX7_cursorCommand 108 = .ok (.iconst 0, 1) := by decide +kernel
theorem dX7_cursorCommand_109 : decode cX7_cursorCommand 109 = .ok (.ireturn, 1) := by decide +kernel
theorem dX7_dotCommand_0 : decode cX7_dotCommand 0 = .ok (.aload_n 0, 1) := by decide +kernel
theorem dX7_dotCommand_1 : decode cX7_dotCommand 1 = .ok (.getfield 10, 3) := by decide +kernel
theorem dX7_dotCommand_4 : decode cX7_dotCommand 4 = .ok (.getfield 306, 3) := by decide +kernel
theorem dX7_dotCommand_7 : decode cX7_dotCommand 7 = .ok (.lookupswitch 50 #[(88, 25), (89, 34)], 25) := by decide +kernel
theorem dX7_dotCommand_32 : decode cX7_dotCommand 32 = .ok (.aload_n 0, 1) := by decide +kernel
theorem dX7_dotCommand_33 : decode cX7_dotCommand 33 = .ok (.ldc2_w 353, 3) := by decide +kernel
theorem dX7_dotCommand_36 : decode cX7_dotCommand 36 = .ok (.invokevirtual 344, 3) := by decide +kernel
theorem dX7_dotCommand_39 : decode cX7_dotCommand 39 = .ok (.iconst 1, 1) := by decide +kernel
theorem dX7_dotCommand_40 : decode cX7_dotCommand 40 = .ok (.ireturn, 1) := by decide +kernel
theorem dX7_dotCommand_41 : decode cX7_dotCommand 41 = .ok (.aload_n 0, 1) := by decide +kernel
theorem dX7_dotCommand_42 : decode cX7_dotCommand 42 = .ok (.aload_n 0, 1) := by decide +kernel
theorem dX7_dotCommand_43 : decode cX7_dotCommand 43 = .ok (.getfield 26, 3) := by decide +kernel
theorem dX7_dotCommand_46 : decode cX7_dotCommand 46 = .ok (.getfield 151, 3) := by decide +kernel
theorem dX7_dotCommand_49 : decode cX7_dotCommand 49 = .ok (.ldc2_w 353, 3) := by decide +kernel
theorem dX7_dotCommand_52 : decode cX7_dotCommand 52 = .ok (.invokevirtual 349, 3) := by decide +kernel
theorem dX7_dotCommand_55 : decode cX7_dotCommand 55 = .ok (.iconst 1, 1) := by decide +kernel
theorem dX7_dotCommand_56 : decode cX7_dotCommand 56 = .ok (.ireturn, 1) := by decide +kernel
theorem dX7_dotCommand_57 : decode cX7_dotCommand 57 = .ok (.iconst 0, 1) := by decide +kernel
theorem dX7_dotCommand_58 : decode cX7_dotCommand 58 = .ok (.ireturn, 1) := by decide +kernel
theorem dX7_goAcross_0 : decode cX7_goAcross 0 = .ok (.aload_n 0, 1) := by decide +kernel
theorem dX7_goAcross_1 : decode cX7_goAcross 1 = .ok (.getfield 10, 3) := by decide +kernel
theorem dX7_goAcross_4 : decode cX7_goAcross 4 = .ok (.getfield 355, 3) := by decide +kernel
theorem dX7_goAcross_7 : decode cX7_goAcross 7 = .ok (.ifCond .eq 13, 3) := by decide +kernel
theorem dX7_goAcross_10 : decode cX7_goAcross 10 = .ok (.aload_n 0, 1) := by decide +kernel
theorem dX7_goAcross_11 : decode cX7_goAcross 11 = .ok (.getfield 26, 3) := by decide +kernel
theorem dX7_goAcross_14 : decode cX7_goAcross 14 = .ok (.getfield 105, 3) := by decide +kernel
theorem dX7_goAcross_17 : decode cX7_goAcross 17 = .ok (.goto 4, 3) := by decide +kernel
theorem dX7_goAcross_20 : decode cX7_goAcross 20 = .ok (.iconst 0, 1) := by decide +kernel
theorem dX7_goAcross_21 : decode cX7_goAcross 21 = .ok (.istore_n 3, 1) := by decide +kernel
theorem dX7_goAcross_22 : decode cX7_goAcross 22 = .ok (.aload_n 0, 1) := by decide +kernel
theorem dX7_goAcross_23 : decode cX7_goAcross 23 = .ok (.iload_n 3, 1) := by decide +kernel
theorem dX7_goAcross_24 : decode cX7_goAcross 24 = .ok (.i2l, 1) := by decide +kernel
theorem dX7_goAcross_25 : decode cX7_goAcross 25 = .ok (.aload_n 0, 1) := by decide +kernel
theorem dX7_goAcross_26 : decode cX7_goAcross 26 = .ok (.getfield 10, 3) := by decide +kernel
theorem dX7_goAcross_29 : decode cX7_goAcross 29 = .ok (.getfield 266, 3) := by decide +kernel
theorem dX7_goAcross_32 : decode cX7_goAcross 32 = .ok (.i2l, 1) := by decide +kernel
theorem dX7_goAcross_33 : decode cX7_goAcross 33 = .ok (.lload_n 1, 1) := by decide +kernel
theorem dX7_goAcross_34 : decode cX7_goAcross 34 = .ok (.lmul, 1) := by decide +kernel
theorem dX7_goAcross_35 : decode cX7_goAcross 35 = .ok (.ldc2_w 269, 3) := by decide +kernel
theorem dX7_goAcross_38 : decode cX7_goAcross 38 = .ok (.ldiv, 1) := by decide +kernel
theorem dX7_goAcross_39 : decode cX7_goAcross 39 = .ok (.ladd, 1) := by decide +kernel
theorem dX7_goAcross_40 : decode cX7_goAcross 40 = .ok (.invokevirtual 80, 3) := by decide +kernel
theorem dX7_goAcross_43 : decode cX7_goAcross 43 = .ok (.return_, 1) := by decide +kernel
theorem dX7_goDown_0 : decode cX7_goDown 0 = .ok (.aload_n 0, 1) := by decide +kernel
theorem dX7_goDown_1 : decode cX7_goDown 1 = .ok (.getfield 10, 3) := by decide +kernel
theorem dX7_goDown_4 : decode cX7_goDown 4 = .ok (.getfield 355, 3) := by decide +kernel
theorem dX7_goDown_7 : decode cX7_goDown 7 = .ok (.ifCond .eq 13, 3) := by decide +kernel
theorem dX7_goDown_10 : decode cX7_goDown 10 = .ok (.aload_n 0, 1) := by decide +kernel
theorem dX7_goDown_11 : decode cX7_goDown 11 = .ok (.getfield 26, 3) := by decide +kernel
theorem dX7_goDown_14 : decode cX7_goDown 14 = .ok (.getfield 108, 3) := by decide +kernel
theorem dX7_goDown_17 : decode cX7_goDown 17 = .ok (.goto 4, 3) := by decide +kernel
theorem dX7_goDown_20 : decode cX7_goDown 20 = .ok (.iload_n 1, 1) := by decide +kernel
theorem dX7_goDown_21 : decode cX7_goDown 21 = .ok (.istore 4, 2) := by decide +kernel
theorem dX7_goDown_23 : decode cX7_goDown 23 = .ok (.aload_n 0, 1) := by decide +kernel
theorem dX7_goDown_24 : decode cX7_goDown 24 = .ok (.iload 4, 2) := by decide +kernel
theorem dX7_goDown_26 : decode cX7_goDown 26 = .ok (.i2l, 1) := by decide +kernel
theorem dX7_goDown_27 : decode cX7_goDown 27 = .ok (.aload_n 0, 1) := by decide +kernel
theorem dX7_goDown_28 : decode cX7_goDown 28 = .ok (.getfield 10, 3) := by decide +kernel
theorem dX7_goDown_31 : decode cX7_goDown 31 = .ok (.getfield 266, 3) := by decide +kernel
theorem dX7_goDown_34 : decode cX7_goDown 34 = .ok (.i2l, 1) := by decide +kernel
theorem dX7_goDown_35 : decode cX7_goDown 35 = .ok (.lload_n 2, 1) := by decide +kernel
theorem dX7_goDown_36 : decode cX7_goDown 36 = .ok (.lmul, 1) := by decide +kernel
theorem dX7_goDown_37 : decode cX7_goDown 37 = .ok (.ldc2_w 269, 3) := by decide +kernel
theorem dX7_goDown_40 : decode cX7_goDown 40 = .ok (.ldiv, 1) := by decide +kernel
theorem dX7_goDown_41 : decode cX7_goDown 41 = .ok (.ladd, 1) := by decide +kernel
theorem dX7_goDown_42 : decode cX7_goDown 42 = .ok (.invokevirtual 84, 3) := by decide +kernel
theorem dX7_goDown_45 : decode cX7_goDown 45 = .ok (.return_, 1) := by decide +kernel
end
section
theorem dX8_init_0 : decode cX8_init 0 = .ok (.aload_n 0, 1) := by decide +kernel
theorem dX8_init_1 : decode cX8_init 1 = .ok (.invokespecial 1, 3) := by decide +kernel
theorem dX8_init_4 : decode cX8_init 4 = .ok (.aload_n 0, 1) := by decide +kernel
theorem dX8_init_5 : decode cX8_init 5 = .ok (.bipush 53, 2) := by decide +kernel
theorem dX8_init_7 : decode cX8_init 7 = .ok (.newarray .int, 2) := by decide +kernel
theorem dX8_init_9 : decode cX8_init 9 = .ok (.putfield 7, 3) := by decide +kernel
theorem dX8_init_12 : decode cX8_init 12 = .ok (.aload_n 0, 1) := by decide +kernel
theorem dX8_init_13 : decode cX8_init 13 = .ok (.sipush 159, 3) := by decide +kernel
theorem dX8_init_16 : decode cX8_init 16 = .ok (.newarray .int, 2) := by decide +kernel
theorem dX8_init_18 : decode cX8_init 18 = .ok (.putfield 13, 3) := by decide +kernel
theorem dX8_init_21 : decode cX8_init 21 = .ok (.aload_n 0, 1) := by decide +kernel
theorem dX8_init_22 : decode cX8_init 22 = .ok (.iconst 3, 1) := by decide +kernel
theorem dX8_init_23 : decode cX8_init 23 = .ok (.newarray .boolean, 2) := by decide +kernel
theorem dX8_init_25 : decode cX8_init 25 = .ok (.putfield 16, 3) := by decide +kernel
theorem dX8_init_28 : decode cX8_init 28 = .ok (.aload_n 0, 1) := by decide +kernel
theorem dX8_init_29 : decode cX8_init 29 = .ok (.sipush 512, 3) := by decide +kernel
theorem dX8_init_32 : decode cX8_init 32 = .ok (.newarray .int, 2) := by decide +kernel
theorem dX8_init_34 : decode cX8_init 34 = .ok (.putfield 20, 3) := by decide +kernel
theorem dX8_init_37 : decode cX8_init 37 = .ok (.aload_n 0, 1) := by decide +kernel
theorem dX8_init_38 : decode cX8_init 38 = .ok (.sipush 24000, 3) := by decide +kernel
theorem dX8_init_41 : decode cX8_init 41 = .ok (.newarray .int, 2) := by decide +kernel
theorem dX8_init_43 : decode cX8_init 43 = .ok (.putfield 23, 3) := by decide +kernel
theorem dX8_init_46 : decode cX8_init 46 = .ok (.aload_n 0, 1) := by decide +kernel
theorem dX8_init_47 : decode cX8_init 47 = .ok (.sipush 160, 3) := by decide +kernel
theorem dX8_init_50 : decode cX8_init 50 = .ok (.newarray .int, 2) := by decide +kernel
theorem dX8_init_52 : decode cX8_init 52 = .ok (.putfield 26, 3) := by decide +kernel
theorem dX8_init_55 : decode cX8_init 55 = .ok (.aload_n 0, 1) := by decide +kernel
theorem dX8_init_56 : decode cX8_init 56 = .ok (.bipush 112, 2) := by decide +kernel
theorem dX8_init_58 : decode cX8_init 58 = .ok (.newarray .int, 2) := by decide +kernel
theorem dX8_init_60 : decode cX8_init 60 = .ok (.putfield 29, 3) := by decide +kernel
theorem dX8_init_63 : decode cX8_init 63 = .ok (.aload_n 0, 1) := by decide +kernel
theorem dX8_init_64 : decode cX8_init 64 = .ok (.sipush 4096, 3) := by decide +kernel
theorem dX8_init_67 : decode cX8_init 67 = .ok (.newarray .byte, 2) := by decide +kernel
theorem dX8_init_69 : decode cX8_init 69 = .ok (.putfield 32, 3) := by decide +kernel
theorem dX8_init_72 : decode cX8_init 72 = .ok (.iconst 0, 1) := by decide +kernel
theorem dX8_init_73 : decode cX8_init 73 = .ok (.istore_n 1, 1) := by decide +kernel
theorem dX8_init_74 : decode cX8_init 74 = .ok (.iload_n 1, 1) := by decide +kernel
theorem dX8_init_75 : decode cX8_init 75 = .ok (.sipush 512, 3) := by decide +kernel
theorem dX8_init_78 : decode cX8_init 78 = .ok (.if_icmp .ge 16, 3) := by decide +kernel
theorem dX8_init_81 : decode cX8_init 81 = .ok (.aload_n 0, 1) := by decide +kernel
theorem dX8_init_82 : decode cX8_init 82 = .ok (.getfield 20, 3) := by decide +kernel
theorem dX8_init_85 : decode cX8_init 85 = .ok (.iload_n 1, 1) := by decide +kernel
theorem dX8_init_86 : decode cX8_init 86 = .ok (.iconst (-1), 1) := by decide +kernel
theorem dX8_init_87 : decode cX8_init 87 = .ok (.iastore, 1) := by decide +kernel
theorem dX8_init_88 : decode cX8_init 88 = .ok (.iinc 1 1, 3) := by decide +kernel
theorem dX8_init_91 : decode cX8_init 91 = .ok (.goto (-17), 3) := by decide +kernel
theorem dX8_init_94 : decode cX8_init 94 = .ok (.aload_n 0, 1) := by decide +kernel
theorem dX8_init_95 : decode cX8_init 95 = .ok (.invokevirtual 36, 3) := by decide +kernel
theorem dX8_init_98 : decode cX8_init 98 = .ok (.return_, 1) := by decide +kernel
theorem dX8_thrown_0 : decode cX8_thrown 0 = .ok (.aload_n 0, 1) := by decide +kernel
theorem dX8_thrown_1 : decode cX8_thrown 1 = .ok (.getfield 39, 3) := by decide +kernel
theorem dX8_thrown_4 : decode cX8_thrown 4 = .ok (.ireturn, 1) := by decide +kernel
theorem dX8_across_0 : decode cX8_across 0 = .ok (.iload_n 0, 1) := by decide +kernel
theorem dX8_across_1 : decode cX8_across 1 = .ok (.iconst 1, 1) := by decide +kernel
theorem dX8_across_2 : decode cX8_across 2 = .ok (.if_icmp .ne 8, 3) := by decide +kernel
theorem dX8_across_5 : decode cX8_across 5 = .ok (.ldc 43, 2) := by decide +kernel
theorem dX8_across_7 : decode cX8_across 7 = .ok (.goto 41, 3) := by decide +kernel
theorem dX8_across_10 : decode cX8_across 10 = .ok (.iload_n 0, 1) := by decide +kernel
theorem dX8_across_11 : decode cX8_across 11 = .ok (.iconst 2, 1) := by decide +kernel
theorem dX8_across_12 : decode cX8_across 12 = .ok (.if_icmp .eq 8, 3) := by decide +kernel
theorem dX8_across_15 : decode cX8_across 15 = .ok (.iload_n 0, 1) := by decide +kernel
theorem dX8_across_16 : decode cX8_across 16 = .ok (.iconst 3, 1) := by decide +kernel
theorem dX8_across_17 : decode cX8_across 17 = .ok (.if_icmp .ne 8, 3) := by decide +kernel
theorem dX8_across_20 : decode cX8_across 20 = .ok (.ldc 44, 2) := by decide +kernel
theorem dX8_across_22 : decode cX8_across 22 = .ok (.goto 26, 3) := by decide +kernel
theorem dX8_across_25 : decode cX8_across 25 = .ok (.iload_n 0, 1) := by decide +kernel
theorem dX8_across_26 : decode cX8_across 26 = .ok (.bipush 6, 2) := by decide +kernel
theorem dX8_across_28 : decode cX8_across 28 = .ok (.if_icmp .ne 8, 3) := by decide +kernel
theorem dX8_across_31 : decode cX8_across 31 = .ok (.ldc 45, 2) := by decide +kernel
theorem dX8_across_33 : decode cX8_across 33 = .ok (.goto 15, 3) := by decide +kernel
theorem dX8_across_36 : decode cX8_across 36 = .ok (.iload_n 0, 1) := by decide +kernel
theorem dX8_across_37 : decode cX8_across 37 = .ok (.bipush 26, 2) := by decide +kernel
theorem dX8_across_39 : decode cX8_across 39 = .ok (.if_icmp .ne 8, 3) := by decide +kernel
theorem dX8_across_42 : decode cX8_across 42 = .ok (.ldc 46, 2) := by decide +kernel
theorem dX8_across_44 : decode cX8_across 44 = .ok (.goto 4, 3) := by decide +kernel
theorem dX8_across_47 : decode cX8_across 47 = .ok (.iconst 0, 1) := by decide +kernel
theorem dX8_across_48 : decode cX8_across 48 = .ok (.ireturn, 1) := by decide +kernel
theorem dX8_down_0 : decode cX8_down 0 = .ok (.iload_n 0, 1) := by decide +kernel
theorem dX8_down_1 : decode cX8_down 1 = .ok (.iconst 1, 1) := by decide +kernel
theorem dX8_down_2 : decode cX8_down 2 = .ok (.if_icmp .ne 8, 3) := by decide +kernel
theorem dX8_down_5 : decode cX8_down 5 = .ok (.ldc 47, 2) := by decide +kernel
theorem dX8_down_7 : decode cX8_down 7 = .ok (.goto 36, 3) := by decide +kernel
theorem dX8_down_10 : decode cX8_down 10 = .ok (.iload_n 0, 1) := by decide +kernel
theorem dX8_down_11 : decode cX8_down 11 = .ok (.iconst 2, 1) := by decide +kernel
theorem dX8_down_12 : decode cX8_down 12 = .ok (.if_icmp .ne 8, 3) := by decide +kernel
theorem dX8_down_15 : decode cX8_down 15 = .ok (.ldc 45, 2) := by decide +kernel
theorem dX8_down_17 : decode cX8_down 17 = .ok (.goto 26, 3) := by decide +kernel
theorem dX8_down_20 : decode cX8_down 20 = .ok (.iload_n 0, 1) := by decide +kernel
theorem dX8_down_21 : decode cX8_down 21 = .ok (.iconst 3, 1) := by decide +kernel
theorem dX8_down_22 : decode cX8_down 22 = .ok (.if_icmp .ne 8, 3) := by decide +kernel
theorem dX8_down_25 : decode cX8_down 25 = .ok (.ldc 48, 2) := by decide +kernel
theorem dX8_down_27 : decode cX8_down 27 = .ok (.goto 16, 3) := by decide +kernel
theorem dX8_down_30 : decode cX8_down 30 = .ok (.iload_n 0, 1) := by decide +kernel
theorem dX8_down_31 : decode cX8_down 31 = .ok (.bipush 6, 2) := by decide +kernel
theorem dX8_down_33 : decode cX8_down 33 = .ok (.if_icmp .ne 8, 3) := by decide +kernel
theorem dX8_down_36 : decode cX8_down 36 = .ok (.ldc 49, 2) := by decide +kernel
theorem dX8_down_38 : decode cX8_down 38 = .ok (.goto 5, 3) := by decide +kernel
theorem dX8_down_41 : decode cX8_down 41 = .ok (.ldc 50, 2) := by decide +kernel
theorem dX8_down_43 : decode cX8_down 43 = .ok (.ireturn, 1) := by decide +kernel
theorem dX8_measure_0 : decode cX8_measure 0 = .ok (.aload_n 0, 1) := by decide +kernel
theorem dX8_measure_1 : decode cX8_measure 1 = .ok (.getfield 51, 3) := by decide +kernel
theorem dX8_measure_4 : decode cX8_measure 4 = .ok (.iconst 2, 1) := by decide +kernel
theorem dX8_measure_5 : decode cX8_measure 5 = .ok (.irem, 1) := by decide +kernel
theorem dX8_measure_6 : decode cX8_measure 6 = .ok (.iconst 1, 1) := by decide +kernel
theorem dX8_measure_7 : decode cX8_measure 7 = .ok (.if_icmp .ne 7, 3) := by decide +kernel
theorem dX8_measure_10 : decode cX8_measure 10 = .ok (.iconst 1, 1) := by decide +kernel
theorem dX8_measure_11 : decode cX8_measure 11 = .ok (.goto 4, 3) := by decide +kernel
theorem dX8_measure_14 : decode cX8_measure 14 = .ok (.iconst 0, 1) := by decide +kernel
theorem dX8_measure_15 : decode cX8_measure 15 = .ok (.istore_n 1, 1) := by decide +kernel
theorem dX8_measure_16 : decode cX8_measure 16 = .ok (.aload_n 0, 1) := by decide +kernel
theorem dX8_measure_17 : decode cX8_measure 17 = .ok (.iload_n 1, 1) := by decide +kernel
theorem dX8_measure_18 : decode cX8_measure 18 = .ok (.ifCond .eq 17, 3) := by decide +kernel
theorem dX8_measure_21 : decode cX8_measure 21 = .ok (.aload_n 0, 1) := by decide +kernel
theorem dX8_measure_22 : decode cX8_measure 22 = .ok (.getfield 54, 3) := by decide +kernel
theorem dX8_measure_25 : decode cX8_measure 25 = .ok (.invokestatic 57, 3) := by decide +kernel
theorem dX8_measure_28 : decode cX8_measure 28 = .ok (.sipush 2880, 3) := by decide +kernel
theorem dX8_measure_31 : decode cX8_measure 31 = .ok (.isub, 1) := by decide +kernel
theorem dX8_measure_32 : decode cX8_measure 32 = .ok (.goto 14, 3) := by decide +kernel
theorem dX8_measure_35 : decode cX8_measure 35 = .ok (.aload_n 0, 1) := by decide +kernel
theorem dX8_measure_36 : decode cX8_measure 36 = .ok (.getfield 54, 3) := by decide +kernel
theorem dX8_measure_39 : decode cX8_measure 39 = .ok (.invokestatic 61, 3) := by decide +kernel
theorem dX8_measure_42 : decode cX8_measure 42 = .ok (.sipush 3600, 3) := by decide +kernel
theorem dX8_measure_45 : decode cX8_measure 45 = .ok (.isub, 1) := by decide +kernel
theorem dX8_measure_46 : decode cX8_measure 46 = .ok (.putfield 64, 3) := by decide +kernel
theorem dX8_measure_49 : decode cX8_measure 49 = .ok (.aload_n 0, 1) := by decide +kernel
theorem dX8_measure_50 : decode cX8_measure 50 = .ok (.iload_n 1, 1) := by decide +kernel
theorem dX8_measure_51 : decode cX8_measure 51 = .ok (.ifCond .eq 13, 3) := by decide +kernel
theorem dX8_measure_54 : decode cX8_measure 54 = .ok (.aload_n 0, 1) := by decide +kernel
theorem dX8_measure_55 : decode cX8_measure 55 = .ok (.getfield 54, 3) := by decide +kernel
theorem dX8_measure_58 : decode cX8_measure 58 = .ok (.invokestatic 61, 3) := by decide +kernel
theorem dX8_measure_61 : decode cX8_measure 61 = .ok (.goto 10, 3) := by decide +kernel
theorem dX8_measure_64 : decode cX8_measure 64 = .ok (.aload_n 0, 1) := by decide +kernel
theorem dX8_measure_65 : decode cX8_measure 65 = .ok (.getfield 54, 3) := by decide +kernel
theorem dX8_measure_68 : decode cX8_measure 68 = .ok (.invokestatic 57, 3) := by decide +kernel
theorem dX8_measure_71 : decode cX8_measure 71 = .ok (.putfield 67, 3) := by decide +kernel
theorem dX8_measure_74 : decode cX8_measure 74 = .ok (.return_, 1) := by decide +kernel
theorem dX8_within_0 : decode cX8_within 0 = .ok (.lload_n 0, 1) := by decide +kernel
theorem dX8_within_1 : decode cX8_within 1 = .ok (.lconst 0, 1) := by decide +kernel
theorem dX8_within_2 : decode cX8_within 2 = .ok (.lcmp, 1) := by decide +kernel
theorem dX8_within_3 : decode cX8_within 3 = .ok (.ifCond .ge 7, 3) := by decide +kernel
theorem dX8_within_6 : decode cX8_within 6 = .ok (.iconst 0, 1) := by decide +kernel
theorem dX8_within_7 : decode cX8_within 7 = .ok (.goto 16, 3) := by decide +kernel
theorem dX8_within_10 : decode cX8_within 10 = .ok (.lload_n 0, 1) := by decide +kernel
theorem dX8_within_11 : decode cX8_within 11 = .ok (.iload_n 2, 1) := by decide +kernel
theorem dX8_within_12 : decode cX8_within 12 = .ok (.i2l, 1) := by decide +kernel
theorem dX8_within_13 : decode cX8_within 13 = .ok (.lcmp, 1) := by decide +kernel
theorem dX8_within_14 : decode cX8_within 14 = .ok (.ifCond .le 7, 3) := by decide +kernel
theorem dX8_within_17 : decode cX8_within 17 = .ok (.iload_n 2, 1) := by decide +kernel
theorem dX8_within_18 : decode cX8_within 18 = .ok (.goto 5, 3) := by decide +kernel
theorem dX8_within_21 : decode cX8_within 21 = .ok (.lload_n 0, 1) := by decide +kernel
theorem dX8_within_22 : decode cX8_within 22 = .ok (.l2i, 1) := by decide +kernel
theorem dX8_within_23 : decode cX8_within 23 = .ok (.ireturn, 1) := by decide +kernel
theorem dX8_setX_0 : decode cX8_setX 0 = .ok (.aload_n 0, 1) := by decide +kernel
theorem dX8_setX_1 : decode cX8_setX 1 = .ok (.getfield 7, 3) := by decide +kernel
theorem dX8_setX_4 : decode cX8_setX 4 = .ok (.iconst 0, 1) := by decide +kernel
theorem dX8_setX_5 : decode cX8_setX 5 = .ok (.lload_n 1, 1) := by decide +kernel
theorem dX8_setX_6 : decode cX8_setX 6 = .ok (.aload_n 0, 1) := by decide +kernel
theorem dX8_setX_7 : decode cX8_setX 7 = .ok (.getfield 64, 3) := by decide +kernel
theorem dX8_setX_10 : decode cX8_setX 10 = .ok (.invokestatic 70, 3) := by decide +kernel
theorem dX8_setX_13 : decode cX8_setX 13 = .ok (.iastore, 1) := by decide +kernel
theorem dX8_setX_14 : decode cX8_setX 14 = .ok (.return_, 1) := by decide +kernel
theorem dX8_setY_0 : decode cX8_setY 0 = .ok (.aload_n 0, 1) := by decide +kernel
theorem dX8_setY_1 : decode cX8_setY 1 = .ok (.getfield 7, 3) := by decide +kernel
theorem dX8_setY_4 : decode cX8_setY 4 = .ok (.iconst 1, 1) := by decide +kernel
theorem dX8_setY_5 : decode cX8_setY 5 = .ok (.lload_n 1, 1) := by decide +kernel
theorem dX8_setY_6 : decode cX8_setY 6 = .ok (.aload_n 0, 1) := by decide +kernel
theorem dX8_setY_7 : decode cX8_setY 7 = .ok (.getfield 67, 3) := by decide +kernel
theorem dX8_setY_10 : decode cX8_setY 10 = .ok (.invokestatic 70, 3) := by decide +kernel
theorem dX8_setY_13 : decode cX8_setY 13 = .ok (.iastore, 1) := by decide +kernel
theorem dX8_setY_14 : decode cX8_setY 14 = .ok (.return_, 1) := by decide +kernel
theorem dX8_home_0 : decode cX8_home 0 = .ok (.aload_n 0, 1) := by decide +kernel
theorem dX8_home_1 : decode cX8_home 1 = .ok (.getfield 7, 3) := by decide +kernel
theorem dX8_home_4 : decode cX8_home 4 = .ok (.iconst 4, 1) := by decide +kernel
theorem dX8_home_5 : decode cX8_home 5 = .ok (.iaload, 1) := by decide +kernel
theorem dX8_home_6 : decode cX8_home 6 = .ok (.aload_n 0, 1) := by decide +kernel
theorem dX8_home_7 : decode cX8_home 7 = .ok (.getfield 7, 3) := by decide +kernel
theorem dX8_home_10 : decode cX8_home 10 = .ok (.bipush 7, 2) := by decide +kernel
theorem dX8_home_12 : decode cX8_home 12 = .ok (.iaload, 1) := by decide +kernel
theorem dX8_home_13 : decode cX8_home 13 = .ok (.iconst 3, 1) := by decide +kernel
theorem dX8_home_14 : decode cX8_home 14 = .ok (.imul, 1) := by decide +kernel
theorem dX8_home_15 : decode cX8_home 15 = .ok (.iconst 4, 1) := by decide +kernel
theorem dX8_home_16 : decode cX8_home 16 = .ok (.idiv, 1) := by decide +kernel
theorem dX8_home_17 : decode cX8_home 17 = .ok (.iadd, 1) := by decide +kernel
theorem dX8_home_18 : decode cX8_home 18 = .ok (.ireturn, 1) := by decide +kernel
theorem dX8_defaults_0 : decode cX8_defaults 0 = .ok (.aload_n 0, 1) := by decide +kernel
theorem dX8_defaults_1 : decode cX8_defaults 1 = .ok (.invokevirtual 74, 3) := by decide +kernel
theorem dX8_defaults_4 : decode cX8_defaults 4 = .ok (.aload_n 0, 1) := by decide +kernel
theorem dX8_defaults_5 : decode cX8_defaults 5 = .ok (.getfield 7, 3) := by decide +kernel
theorem dX8_defaults_8 : decode cX8_defaults 8 = .ok (.iconst 4, 1) := by decide +kernel
theorem dX8_defaults_9 : decode cX8_defaults 9 = .ok (.sipush 3600, 3) := by decide +kernel
theorem dX8_defaults_12 : decode cX8_defaults 12 = .ok (.iastore, 1) := by decide +kernel
theorem dX8_defaults_13 : decode cX8_defaults 13 = .ok (.aload_n 0, 1) := by decide +kernel
theorem dX8_defaults_14 : decode cX8_defaults 14 = .ok (.getfield 7, 3) := by decide +kernel
theorem dX8_defaults_17 : decode cX8_defaults 17 = .ok (.iconst 5, 1) := by decide +kernel
theorem dX8_defaults_18 : decode cX8_defaults 18 = .ok (.aload_n 0, 1) := by decide +kernel
theorem dX8_defaults_19 : decode cX8_defaults 19 = .ok (.getfield 67, 3) := by decide +kernel
theorem dX8_defaults_22 : decode cX8_defaults 22 = .ok (.sipush 7200, 3) := by decide +kernel
theorem dX8_defaults_25 : decode cX8_defaults 25 = .ok (.isub, 1) := by decide +kernel
theorem dX8_defaults_26 : decode cX8_defaults 26 = .ok (.iastore, 1) := by decide +kernel
theorem dX8_defaults_27 : decode cX8_defaults 27 = .ok (.aload_n 0, 1) := by decide +kernel
theorem dX8_defaults_28 : decode cX8_defaults 28 = .ok (.getfield 7, 3) := by decide +kernel
theorem dX8_defaults_31 : decode cX8_defaults 31 = .ok (.iconst 2, 1) := by decide +kernel
theorem dX8_defaults_32 : decode cX8_defaults 32 = .ok (.iconst 0, 1) := by decide +kernel
theorem dX8_defaults_33 : decode cX8_defaults 33 = .ok (.iastore, 1) := by decide +kernel
theorem dX8_defaults_34 : decode cX8_defaults 34 = .ok (.aload_n 0, 1) := by decide +kernel
theorem dX8_defaults_35 : decode cX8_defaults 35 = .ok (.getfield 7, 3) := by decide +kernel
theorem dX8_defaults_38 : decode cX8_defaults 38 = .ok (.iconst 3, 1) := by decide +kernel
theorem dX8_defaults_39 : decode cX8_defaults 39 = .ok (.aload_n 0, 1) := by decide +kernel
theorem dX8_defaults_40 : decode cX8_defaults 40 = .ok (.getfield 64, 3) := by decide +kernel
theorem dX8_defaults_43 : decode cX8_defaults 43 = .ok (.iastore, 1) := by decide +kernel
theorem dX8_defaults_44 : decode cX8_defaults 44 = .ok (.aload_n 0, 1) := by decide +kernel
theorem dX8_defaults_45 : decode cX8_defaults 45 = .ok (.lconst 0, 1) := by decide +kernel
theorem dX8_defaults_46 : decode cX8_defaults 46 = .ok (.invokevirtual 77, 3) := by decide +kernel
theorem dX8_defaults_49 : decode cX8_defaults 49 = .ok (.aload_n 0, 1) := by decide +kernel
theorem dX8_defaults_50 : decode cX8_defaults 50 = .ok (.aload_n 0, 1) := by decide +kernel
theorem dX8_defaults_51 : decode cX8_defaults 51 = .ok (.invokevirtual 81, 3) := by decide +kernel
theorem dX8_defaults_54 : decode cX8_defaults 54 = .ok (.i2l, 1) := by decide +kernel
theorem dX8_defaults_55 : decode cX8_defaults 55 = .ok (.invokevirtual 85, 3) := by decide +kernel
theorem dX8_defaults_58 : decode cX8_defaults 58 = .ok (.return_, 1) := by decide +kernel
theorem dX8_reset_0 : decode cX8_reset 0 = .ok (.iconst 0, 1) := by decide +kernel
theorem dX8_reset_1 : decode cX8_reset 1 = .ok (.istore_n 1, 1) := by decide +kernel
theorem dX8_reset_2 : decode cX8_reset 2 = .ok (.iload_n 1, 1) := by decide +kernel
theorem dX8_reset_3 : decode cX8_reset 3 = .ok (.bipush 53, 2) := by decide +kernel
theorem dX8_reset_5 : decode cX8_reset 5 = .ok (.if_icmp .ge 16, 3) := by decide +kernel
theorem dX8_reset_8 : decode cX8_reset 8 = .ok (.aload_n 0, 1) := by decide +kernel
theorem dX8_reset_9 : decode cX8_reset 9 = .ok (.getfield 7, 3) := by decide +kernel
theorem dX8_reset_12 : decode cX8_reset 12 = .ok (.iload_n 1, 1) := by decide +kernel
theorem dX8_reset_13 : decode cX8_reset 13 = .ok (.iconst 0, 1) := by decide +kernel
theorem dX8_reset_14 : decode cX8_reset 14 = .ok (.iastore, 1) := by decide +kernel
theorem dX8_reset_15 : decode cX8_reset 15 = .ok (.iinc 1 1, 3) := by decide +kernel
theorem dX8_reset_18 : decode cX8_reset 18 = .ok (.goto (-16), 3) := by decide +kernel
theorem dX8_reset_21 : decode cX8_reset 21 = .ok (.aload_n 0, 1) := by decide +kernel
theorem dX8_reset_22 : decode cX8_reset 22 = .ok (.iconst 2, 1) := by decide +kernel
theorem dX8_reset_23 : decode cX8_reset 23 = .ok (.putfield 54, 3) := by decide +kernel
theorem dX8_reset_26 : decode cX8_reset 26 = .ok (.aload_n 0, 1) := by decide +kernel
theorem dX8_reset_27 : decode cX8_reset 27 = .ok (.iconst 0, 1) := by decide +kernel
theorem dX8_reset_28 : decode cX8_reset 28 = .ok (.putfield 51, 3) := by decide +kernel
theorem dX8_reset_31 : decode cX8_reset 31 = .ok (.aload_n 0, 1) := by decide +kernel
theorem dX8_reset_32 : decode cX8_reset 32 = .ok (.iconst 1, 1) := by decide +kernel
theorem dX8_reset_33 : decode cX8_reset 33 = .ok (.putfield 88, 3) := by decide +kernel
theorem dX8_reset_36 : decode cX8_reset 36 = .ok (.aload_n 0, 1) := by decide +kernel
theorem dX8_reset_37 : decode cX8_reset 37 = .ok (.getfield 7, 3) := by decide +kernel
theorem dX8_reset_40 : decode cX8_reset 40 = .ok (.bipush 6, 2) := by decide +kernel
theorem dX8_reset_42 : decode cX8_reset 42 = .ok (.sipush 720, 3) := by decide +kernel
theorem dX8_reset_45 : decode cX8_reset 45 = .ok (.iastore, 1) := by decide +kernel
theorem dX8_reset_46 : decode cX8_reset 46 = .ok (.aload_n 0, 1) := by decide +kernel
theorem dX8_reset_47 : decode cX8_reset 47 = .ok (.getfield 7, 3) := by decide +kernel
theorem dX8_reset_50 : decode cX8_reset 50 = .ok (.bipush 7, 2) := by decide +kernel
theorem dX8_reset_52 : decode cX8_reset 52 = .ok (.sipush 1200, 3) := by decide +kernel
theorem dX8_reset_55 : decode cX8_reset 55 = .ok (.iastore, 1) := by decide +kernel
theorem dX8_reset_56 : decode cX8_reset 56 = .ok (.aload_n 0, 1) := by decide +kernel
theorem dX8_reset_57 : decode cX8_reset 57 = .ok (.invokevirtual 91, 3) := by decide +kernel
theorem dX8_reset_60 : decode cX8_reset 60 = .ok (.return_, 1) := by decide +kernel
theorem dX8_eject_0 : decode cX8_eject 0 = .ok (.iconst 4, 1) := by decide +kernel
theorem dX8_eject_1 : decode cX8_eject 1 = .ok (.aload_n 0, 1) := by decide +kernel
theorem dX8_eject_2 : decode cX8_eject 2 = .ok (.getfield 94, 3) := by decide +kernel
theorem dX8_eject_5 : decode cX8_eject 5 = .ok (.bipush 40, 2) := by decide +kernel
theorem dX8_eject_7 : decode cX8_eject 7 = .ok (.irem, 1) := by decide +kernel
theorem dX8_eject_8 : decode cX8_eject 8 = .ok (.imul, 1) := by decide +kernel
theorem dX8_eject_9 : decode cX8_eject 9 = .ok (.istore_n 1, 1) := by decide +kernel
theorem dX8_eject_10 : decode cX8_eject 10 = .ok (.aload_n 0, 1) := by decide +kernel
theorem dX8_eject_11 : decode cX8_eject 11 = .ok (.getfield 26, 3) := by decide +kernel
theorem dX8_eject_14 : decode cX8_eject 14 = .ok (.iload_n 1, 1) := by decide +kernel
theorem dX8_eject_15 : decode cX8_eject 15 = .ok (.aload_n 0, 1) := by decide +kernel
theorem dX8_eject_16 : decode cX8_eject 16 = .ok (.getfield 97, 3) := by decide +kernel
theorem dX8_eject_19 : decode cX8_eject 19 = .ok (.iastore, 1) := by decide +kernel
theorem dX8_eject_20 : decode cX8_eject 20 = .ok (.aload_n 0, 1) := by decide +kernel
theorem dX8_eject_21 : decode cX8_eject 21 = .ok (.getfield 26, 3) := by decide +kernel
theorem dX8_eject_24 : decode cX8_eject 24 = .ok (.iload_n 1, 1) := by decide +kernel
theorem dX8_eject_25 : decode cX8_eject 25 = .ok (.iconst 1, 1) := by decide +kernel
theorem dX8_eject_26 : decode cX8_eject 26 = .ok (.iadd, 1) := by decide +kernel
theorem dX8_eject_27 : decode cX8_eject 27 = .ok (.aload_n 0, 1) := by decide +kernel
theorem dX8_eject_28 : decode cX8_eject 28 = .ok (.getfield 54, 3) := by decide +kernel
theorem dX8_eject_31 : decode cX8_eject 31 = .ok (.iastore, 1) := by decide +kernel
theorem dX8_eject_32 : decode cX8_eject 32 = .ok (.aload_n 0, 1) := by decide +kernel
theorem dX8_eject_33 : decode cX8_eject 33 = .ok (.getfield 26, 3) := by decide +kernel
theorem dX8_eject_36 : decode cX8_eject 36 = .ok (.iload_n 1, 1) := by decide +kernel
theorem dX8_eject_37 : decode cX8_eject 37 = .ok (.iconst 2, 1) := by decide +kernel
theorem dX8_eject_38 : decode cX8_eject 38 = .ok (.iadd, 1) := by decide +kernel
theorem dX8_eject_39 : decode cX8_eject 39 = .ok (.aload_n 0, 1) := by decide +kernel
theorem dX8_eject_40 : decode cX8_eject 40 = .ok (.getfield 51, 3) := by decide +kernel
theorem dX8_eject_43 : decode cX8_eject 43 = .ok (.iastore, 1) := by decide +kernel
theorem dX8_eject_44 : decode cX8_eject 44 = .ok (.aload_n 0, 1) := by decide +kernel
theorem dX8_eject_45 : decode cX8_eject 45 = .ok (.getfield 26, 3) := by decide +kernel
theorem dX8_eject_48 : decode cX8_eject 48 = .ok (.iload_n 1, 1) := by decide +kernel
theorem dX8_eject_49 : decode cX8_eject 49 = .ok (.iconst 3, 1) := by decide +kernel
theorem dX8_eject_50 : decode cX8_eject 50 = .ok (.iadd, 1) := by decide +kernel
theorem dX8_eject_51 : decode cX8_eject 51 = .ok (.aload_n 0, 1) := by decide +kernel
theorem dX8_eject_52 : decode cX8_eject 52 = .ok (.getfield 88, 3) := by decide +kernel
theorem dX8_eject_55 : decode cX8_eject 55 = .ok (.iastore, 1) := by decide +kernel
theorem dX8_eject_56 : decode cX8_eject 56 = .ok (.aload_n 0, 1) := by decide +kernel
theorem dX8_eject_57 : decode cX8_eject 57 = .ok (.dup, 1) := by decide +kernel
theorem dX8_eject_58 : decode cX8_eject 58 = .ok (.getfield 94, 3) := by decide +kernel
theorem dX8_eject_61 : decode cX8_eject 61 = .ok (.iconst 1, 1) := by decide +kernel
theorem dX8_eject_62 : decode cX8_eject 62 = .ok (.iadd, 1) := by decide +kernel
theorem dX8_eject_63 : decode cX8_eject 63 = .ok (.putfield 94, 3) := by decide +kernel
theorem dX8_eject_66 : decode cX8_eject 66 = .ok (.aload_n 0, 1) := by decide +kernel
theorem dX8_eject_67 : decode cX8_eject 67 = .ok (.iconst 0, 1) := by decide +kernel
theorem dX8_eject_68 : decode cX8_eject 68 = .ok (.putfield 100, 3) := by decide +kernel
theorem dX8_eject_71 : decode cX8_eject 71 = .ok (.aload_n 0, 1) := by decide +kernel
theorem dX8_eject_72 : decode cX8_eject 72 = .ok (.iconst 0, 1) := by decide +kernel
theorem dX8_eject_73 : decode cX8_eject 73 = .ok (.putfield 97, 3) := by decide +kernel
theorem dX8_eject_76 : decode cX8_eject 76 = .ok (.aload_n 0, 1) := by decide +kernel
theorem dX8_eject_77 : decode cX8_eject 77 = .ok (.iconst 0, 1) := by decide +kernel
theorem dX8_eject_78 : decode cX8_eject 78 = .ok (.putfield 103, 3) := by decide +kernel
theorem dX8_eject_81 : decode cX8_eject 81 = .ok (.aload_n 0, 1) := by decide +kernel
theorem dX8_eject_82 : decode cX8_eject 82 = .ok (.aload_n 0, 1) := by decide +kernel
theorem dX8_eject_83 : decode cX8_eject 83 = .ok (.invokevirtual 81, 3) := by decide +kernel
theorem dX8_eject_86 : decode cX8_eject 86 = .ok (.i2l, 1) := by decide +kernel
theorem dX8_eject_87 : decode cX8_eject 87 = .ok (.invokevirtual 85, 3) := by decide +kernel
theorem dX8_eject_90 : decode cX8_eject 90 = .ok (.return_, 1) := by decide +kernel
theorem dX8_ejectIfDue_0 : decode cX8_ejectIfDue 0 = .ok (.aload_n 0, 1) := by decide +kernel
theorem dX8_ejectIfDue_1 : decode cX8_ejectIfDue 1 = .ok (.getfield 97, 3) := by decide +kernel
theorem dX8_ejectIfDue_4 : decode cX8_ejectIfDue 4 = .ok (.ifCond .gt 10, 3) := by decide +kernel
theorem dX8_ejectIfDue_7 : decode cX8_ejectIfDue 7 = .ok (.aload_n 0, 1) := by decide +kernel
theorem dX8_ejectIfDue_8 : decode cX8_ejectIfDue 8 = .ok (.getfield 103, 3) := by decide +kernel
theorem dX8_ejectIfDue_11 : decode cX8_ejectIfDue 11 = .ok (.ifCond .eq 7, 3) := by decide +kernel
theorem dX8_ejectIfDue_14 : decode cX8_ejectIfDue 14 = .ok (.aload_n 0, 1) := by decide +kernel
theorem dX8_ejectIfDue_15 : decode cX8_ejectIfDue 15 = .ok (.invokevirtual 107, 3) := by decide +kernel
theorem dX8_ejectIfDue_18 : decode cX8_ejectIfDue 18 = .ok (.return_, 1) := by decide +kernel
theorem dX8_lineFeed_0 : decode cX8_lineFeed 0 = .ok (.aload_n 0, 1) := by decide +kernel
theorem dX8_lineFeed_1 : decode cX8_lineFeed 1 = .ok (.getfield 7, 3) := by decide +kernel
theorem dX8_lineFeed_4 : decode cX8_lineFeed 4 = .ok (.iconst 1, 1) := by decide +kernel
theorem dX8_lineFeed_5 : decode cX8_lineFeed 5 = .ok (.iaload, 1) := by decide +kernel
theorem dX8_lineFeed_6 : decode cX8_lineFeed 6 = .ok (.i2l, 1) := by decide +kernel
theorem dX8_lineFeed_7 : decode cX8_lineFeed 7 = .ok (.iload_n 1, 1) := by decide +kernel
theorem dX8_lineFeed_8 : decode cX8_lineFeed 8 = .ok (.i2l, 1) := by decide +kernel
theorem dX8_lineFeed_9 : decode cX8_lineFeed 9 = .ok (.ladd, 1) := by decide +kernel
theorem dX8_lineFeed_10 : decode cX8_lineFeed 10 = .ok (.lstore_n 2, 1) := by decide +kernel
theorem dX8_lineFeed_11 : decode cX8_lineFeed 11 = .ok (.lload_n 2, 1) := by decide +kernel
theorem dX8_lineFeed_12 : decode cX8_lineFeed 12 = .ok (.aload_n 0, 1) := by decide +kernel
theorem dX8_lineFeed_13 : decode cX8_lineFeed 13 = .ok (.getfield 67, 3) := by decide +kernel
theorem dX8_lineFeed_16 : decode cX8_lineFeed 16 = .ok (.i2l, 1) := by decide +kernel
theorem dX8_lineFeed_17 : decode cX8_lineFeed 17 = .ok (.lcmp, 1) := by decide +kernel
theorem dX8_lineFeed_18 : decode cX8_lineFeed 18 = .ok (.ifCond .gt 34, 3) := by decide +kernel
theorem dX8_lineFeed_21 : decode cX8_lineFeed 21 = .ok (.aload_n 0, 1) := by decide +kernel
theorem dX8_lineFeed_22 : decode cX8_lineFeed 22 = .ok (.getfield 7, 3) := by decide +kernel
theorem dX8_lineFeed_25 : decode cX8_lineFeed 25 = .ok (.bipush 9, 2) := by decide +kernel
theorem dX8_lineFeed_27 : decode cX8_lineFeed 27 = .ok (.iaload, 1) := by decide +kernel
theorem dX8_lineFeed_28 : decode cX8_lineFeed 28 = .ok (.iconst 1, 1) := by decide +kernel
theorem dX8_lineFeed_29 : decode cX8_lineFeed 29 = .ok (.if_icmp .ne 30, 3) := by decide +kernel
theorem dX8_lineFeed_32 : decode cX8_lineFeed 32 = .ok (.lload_n 2, 1) := by decide +kernel
theorem dX8_lineFeed_33 : decode cX8_lineFeed 33 = .ok (.aload_n 0, 1) := by decide +kernel
theorem dX8_lineFeed_34 : decode cX8_lineFeed 34 = .ok (.getfield 7, 3) := by decide +kernel
theorem dX8_lineFeed_37 : decode cX8_lineFeed 37 = .ok (.iconst 4, 1) := by decide +kernel
theorem dX8_lineFeed_38 : decode cX8_lineFeed 38 = .ok (.iaload, 1) := by decide +kernel
theorem dX8_lineFeed_39 : decode cX8_lineFeed 39 = .ok (.i2l, 1) := by decide +kernel
theorem dX8_lineFeed_40 : decode cX8_lineFeed 40 = .ok (.aload_n 0, 1) := by decide +kernel
theorem dX8_lineFeed_41 : decode cX8_lineFeed 41 = .ok (.getfield 7, 3) := by decide +kernel
theorem dX8_lineFeed_44 : decode cX8_lineFeed 44 = .ok (.iconst 5, 1) := by decide +kernel
theorem dX8_lineFeed_45 : decode cX8_lineFeed 45 = .ok (.iaload, 1) := by decide +kernel
theorem dX8_lineFeed_46 : decode cX8_lineFeed 46 = .ok (.i2l, 1) := by decide +kernel
theorem dX8_lineFeed_47 : decode cX8_lineFeed 47 = .ok (.ladd, 1) := by decide +kernel
theorem dX8_lineFeed_48 : decode cX8_lineFeed 48 = .ok (.lcmp, 1) := by decide +kernel
theorem dX8_lineFeed_49 : decode cX8_lineFeed 49 = .ok (.ifCond .le 10, 3) := by decide +kernel
theorem dX8_lineFeed_52 : decode cX8_lineFeed 52 = .ok (.aload_n 0, 1) := by decide +kernel
theorem dX8_lineFeed_53 : decode cX8_lineFeed 53 = .ok (.invokevirtual 107, 3) := by decide +kernel
theorem dX8_lineFeed_56 : decode cX8_lineFeed 56 = .ok (.goto 8, 3) := by decide +kernel
theorem dX8_lineFeed_59 : decode cX8_lineFeed 59 = .ok (.aload_n 0, 1) := by decide +kernel
theorem dX8_lineFeed_60 : decode cX8_lineFeed 60 = .ok (.lload_n 2, 1) := by decide +kernel
theorem dX8_lineFeed_61 : decode cX8_lineFeed 61 = .ok (.invokevirtual 85, 3) := by decide +kernel
theorem dX8_lineFeed_64 : decode cX8_lineFeed 64 = .ok (.return_, 1) := by decide +kernel
theorem dX8_carriageReturn_0 : decode cX8_carriageReturn 0 = .ok (.aload_n 0, 1) := by decide +kernel
theorem dX8_carriageReturn_1 : decode cX8_carriageReturn 1 = .ok (.aload_n 0, 1) := by decide +kernel
theorem dX8_carriageReturn_2 : decode cX8_carriageReturn 2 = .ok (.getfield 7, 3) := by decide +kernel
theorem dX8_carriageReturn_5 : decode cX8_carriageReturn 5 = .ok (.iconst 2, 1) := by decide +kernel
theorem dX8_carriageReturn_6 : decode cX8_carriageReturn 6 = .ok (.iaload, 1) := by decide +kernel
theorem dX8_carriageReturn_7 : decode cX8_carriageReturn 7 = .ok (.i2l, 1) := by decide +kernel
theorem dX8_carriageReturn_8 : decode cX8_carriageReturn 8 = .ok (.invokevirtual 77, 3) := by decide +kernel
theorem dX8_carriageReturn_11 : decode cX8_carriageReturn 11 = .ok (.return_, 1) := by decide +kernel
theorem dX8_character_0 : decode cX8_character 0 = .ok (.aload_n 0, 1) := by decide +kernel
theorem dX8_character_1 : decode cX8_character 1 = .ok (.getfield 20, 3) := by decide +kernel
theorem dX8_character_4 : decode cX8_character 4 = .ok (.sipush 256, 3) := by decide +kernel
theorem dX8_character_7 : decode cX8_character 7 = .ok (.aload_n 0, 1) := by decide +kernel
theorem dX8_character_8 : decode cX8_character 8 = .ok (.getfield 7, 3) := by decide +kernel
theorem dX8_character_11 : decode cX8_character 11 = .ok (.bipush 11, 2) := by decide +kernel
theorem dX8_character_13 : decode cX8_character 13 = .ok (.iaload, 1) := by decide +kernel
theorem dX8_character_14 : decode cX8_character 14 = .ok (.imul, 1) := by decide +kernel
theorem dX8_character_15 : decode cX8_character 15 = .ok (.iload_n 1, 1) := by decide +kernel
theorem dX8_character_16 : decode cX8_character 16 = .ok (.iadd, 1) := by decide +kernel
theorem dX8_character_17 : decode cX8_character 17 = .ok (.iaload, 1) := by decide +kernel
theorem dX8_character_18 : decode cX8_character 18 = .ok (.istore_n 2, 1) := by decide +kernel
theorem dX8_character_19 : decode cX8_character 19 = .ok (.iload_n 2, 1) := by decide +kernel
theorem dX8_character_20 : decode cX8_character 20 = .ok (.ifCond .ge 13, 3) := by decide +kernel
theorem dX8_character_23 : decode cX8_character 23 = .ok (.aload_n 0, 1) := by decide +kernel
theorem dX8_character_24 : decode cX8_character 24 = .ok (.getfield 7, 3) := by decide +kernel
theorem dX8_character_27 : decode cX8_character 27 = .ok (.bipush 6, 2) := by decide +kernel
theorem dX8_character_29 : decode cX8_character 29 = .ok (.iaload, 1) := by decide +kernel
theorem dX8_character_30 : decode cX8_character 30 = .ok (.goto 4, 3) := by decide +kernel
theorem dX8_character_33 : decode cX8_character 33 = .ok (.iload_n 2, 1) := by decide +kernel
theorem dX8_character_34 : decode cX8_character 34 = .ok (.istore_n 3, 1) := by decide +kernel
theorem dX8_character_35 : decode cX8_character 35 = .ok (.aload_n 0, 1) := by decide +kernel
theorem dX8_character_36 : decode cX8_character 36 = .ok (.getfield 7, 3) := by decide +kernel
theorem dX8_character_39 : decode cX8_character 39 = .ok (.iconst 0, 1) := by decide +kernel
theorem dX8_character_40 : decode cX8_character 40 = .ok (.iaload, 1) := by decide +kernel
theorem dX8_character_41 : decode cX8_character 41 = .ok (.aload_n 0, 1) := by decide +kernel
theorem dX8_character_42 : decode cX8_character 42 = .ok (.getfield 7, 3) := by decide +kernel
theorem dX8_character_45 : decode cX8_character 45 = .ok (.iconst 3, 1) := by decide +kernel
theorem dX8_character_46 : decode cX8_character 46 = .ok (.iaload, 1) := by decide +kernel
theorem dX8_character_47 : decode cX8_character 47 = .ok (.if_icmp .ge 24, 3) := by decide +kernel
theorem dX8_character_50 : decode cX8_character 50 = .ok (.aload_n 0, 1) := by decide +kernel
theorem dX8_character_51 : decode cX8_character 51 = .ok (.getfield 7, 3) := by decide +kernel
theorem dX8_character_54 : decode cX8_character 54 = .ok (.iconst 0, 1) := by decide +kernel
theorem dX8_character_55 : decode cX8_character 55 = .ok (.iaload, 1) := by decide +kernel
theorem dX8_character_56 : decode cX8_character 56 = .ok (.i2l, 1) := by decide +kernel
theorem dX8_character_57 : decode cX8_character 57 = .ok (.iload_n 3, 1) := by decide +kernel
theorem dX8_character_58 : decode cX8_character 58 = .ok (.i2l, 1) := by decide +kernel
theorem dX8_character_59 : decode cX8_character 59 = .ok (.ladd, 1) := by decide +kernel
theorem dX8_character_60 : decode cX8_character 60 = .ok (.aload_n 0, 1) := by decide +kernel
theorem dX8_character_61 : decode cX8_character 61 = .ok (.getfield 7, 3) := by decide +kernel
theorem dX8_character_64 : decode cX8_character 64 = .ok (.iconst 3, 1) := by decide +kernel
theorem dX8_character_65 : decode cX8_character 65 = .ok (.iaload, 1) := by decide +kernel
theorem dX8_character_66 : decode cX8_character 66 = .ok (.i2l, 1) := by decide +kernel
theorem dX8_character_67 : decode cX8_character 67 = .ok (.lcmp, 1) := by decide +kernel
theorem dX8_character_68 : decode cX8_character 68 = .ok (.ifCond .le 29, 3) := by decide +kernel
theorem dX8_character_71 : decode cX8_character 71 = .ok (.aload_n 0, 1) := by decide +kernel
theorem dX8_character_72 : decode cX8_character 72 = .ok (.getfield 7, 3) := by decide +kernel
theorem dX8_character_75 : decode cX8_character 75 = .ok (.bipush 8, 2) := by decide +kernel
theorem dX8_character_77 : decode cX8_character 77 = .ok (.iaload, 1) := by decide +kernel
theorem dX8_character_78 : decode cX8_character 78 = .ok (.ifCond .ne 4, 3) := by decide +kernel
theorem dX8_character_81 : decode cX8_character 81 = .ok (.return_, 1) := by decide +kernel
theorem dX8_character_82 : decode cX8_character 82 = .ok (.aload_n 0, 1) := by decide +kernel
theorem dX8_character_83 : decode cX8_character 83 = .ok (.invokevirtual 110, 3) := by decide +kernel
theorem dX8_character_86 : decode cX8_character 86 = .ok (.aload_n 0, 1) := by decide +kernel
theorem dX8_character_87 : decode cX8_character 87 = .ok (.aload_n 0, 1) := by decide +kernel
theorem dX8_character_88 : decode cX8_character 88 = .ok (.getfield 7, 3) := by decide +kernel
theorem dX8_character_91 : decode cX8_character 91 = .ok (.bipush 7, 2) := by decide +kernel
theorem dX8_character_93 : decode cX8_character 93 = .ok (.iaload, 1) := by decide +kernel
theorem dX8_character_94 : decode cX8_character 94 = .ok (.invokevirtual 113, 3) := by decide +kernel
theorem dX8_character_97 : decode cX8_character 97 = .ok (.iload_n 1, 1) := by decide +kernel
theorem dX8_character_98 : decode cX8_character 98 = .ok (.bipush 32, 2) := by decide +kernel
theorem dX8_character_100 : decode cX8_character 100 = .ok (.if_icmp .eq 103, 3) := by decide +kernel
theorem dX8_character_103 : decode cX8_character 103 = .ok (.aload_n 0, 1) := by decide +kernel
theorem dX8_character_104 : decode cX8_character 104 = .ok (.getfield 100, 3) := by decide +kernel
theorem dX8_character_107 : decode cX8_character 107 = .ok (.sipush 6000, 3) := by decide +kernel
theorem dX8_character_110 : decode cX8_character 110 = .ok (.if_icmp .ge 83, 3) := by decide +kernel
theorem dX8_character_113 : decode cX8_character 113 = .ok (.aload_n 0, 1) := by decide +kernel
theorem dX8_character_114 : decode cX8_character 114 = .ok (.getfield 23, 3) := by decide +kernel
theorem dX8_character_117 : decode cX8_character 117 = .ok (.iconst 4, 1) := by decide +kernel
theorem dX8_character_118 : decode cX8_character 118 = .ok (.aload_n 0, 1) := by decide +kernel
theorem dX8_character_119 : decode cX8_character 119 = .ok (.getfield 100, 3) := by decide +kernel
theorem dX8_character_122 : decode cX8_character 122 = .ok (.imul, 1) := by decide +kernel
theorem dX8_character_123 : decode cX8_character 123 = .ok (.aload_n 0, 1) := by decide +kernel
theorem dX8_character_124 : decode cX8_character 124 = .ok (.getfield 7, 3) := by decide +kernel
theorem dX8_character_127 : decode cX8_character 127 = .ok (.iconst 0, 1) := by decide +kernel
theorem dX8_character_128 : decode cX8_character 128 = .ok (.iaload, 1) := by decide +kernel
theorem dX8_character_129 : decode cX8_character 129 = .ok (.iastore, 1) := by decide +kernel
theorem dX8_character_130 : decode cX8_character 130 = .ok (.aload_n 0, 1) := by decide +kernel
theorem dX8_character_131 : decode cX8_character 131 = .ok (.getfield 23, 3) := by decide +kernel
theorem dX8_character_134 : decode cX8_character 134 = .ok (.iconst 4, 1) := by decide +kernel
theorem dX8_character_135 : decode cX8_character 135 = .ok (.aload_n 0, 1) := by decide +kernel
theorem dX8_character_136 : decode cX8_character 136 = .ok (.getfield 100, 3) := by decide +kernel
theorem dX8_character_139 : decode cX8_character 139 = .ok (.imul, 1) := by decide +kernel
theorem dX8_character_140 : decode cX8_character 140 = .ok (.iconst 1, 1) := by decide +kernel
theorem dX8_character_141 : decode cX8_character 141 = .ok (.iadd, 1) := by decide +kernel
theorem dX8_character_142 : decode cX8_character 142 = .ok (.aload_n 0, 1) := by decide +kernel
theorem dX8_character_143 : decode cX8_character 143 = .ok (.getfield 7, 3) := by decide +kernel
theorem dX8_character_146 : decode cX8_character 146 = .ok (.iconst 1, 1) := by decide +kernel
theorem dX8_character_147 : decode cX8_character 147 = .ok (.iaload, 1) := by decide +kernel
theorem dX8_character_148 : decode cX8_character 148 = .ok (.iastore, 1) := by decide +kernel
theorem dX8_character_149 : decode cX8_character 149 = .ok (.aload_n 0, 1) := by decide +kernel
theorem dX8_character_150 : decode cX8_character 150 = .ok (.getfield 23, 3) := by decide +kernel
theorem dX8_character_153 : decode cX8_character 153 = .ok (.iconst 4, 1) := by decide +kernel
theorem dX8_character_154 : decode cX8_character 154 = .ok (.aload_n 0, 1) := by decide +kernel
theorem dX8_character_155 : decode cX8_character 155 = .ok (.getfield 100, 3) := by decide +kernel
theorem dX8_character_158 : decode cX8_character 158 = .ok (.imul, 1) := by decide +kernel
theorem dX8_character_159 : decode cX8_character 159 = .ok (.iconst 2, 1) := by decide +kernel
theorem dX8_character_160 : decode cX8_character 160 = .ok (.iadd, 1) := by decide +kernel
theorem dX8_character_161 : decode cX8_character 161 = .ok (.iload_n 1, 1) := by decide +kernel
theorem dX8_character_162 : decode cX8_character 162 = .ok (.iastore, 1) := by decide +kernel
theorem dX8_character_163 : decode cX8_character 163 = .ok (.aload_n 0, 1) := by decide +kernel
theorem dX8_character_164 : decode cX8_character 164 = .ok (.getfield 23, 3) := by decide +kernel
theorem dX8_character_167 : decode cX8_character 167 = .ok (.iconst 4, 1) := by decide +kernel
theorem dX8_character_168 : decode cX8_character 168 = .ok (.aload_n 0, 1) := by decide +kernel
theorem dX8_character_169 : decode cX8_character 169 = .ok (.getfield 100, 3) := by decide +kernel
theorem dX8_character_172 : decode cX8_character 172 = .ok (.imul, 1) := by decide +kernel
theorem dX8_character_173 : decode cX8_character 173 = .ok (.iconst 3, 1) := by decide +kernel
theorem dX8_character_174 : decode cX8_character 174 = .ok (.iadd, 1) := by decide +kernel
theorem dX8_character_175 : decode cX8_character 175 = .ok (.aload_n 0, 1) := by decide +kernel
theorem dX8_character_176 : decode cX8_character 176 = .ok (.getfield 7, 3) := by decide +kernel
theorem dX8_character_179 : decode cX8_character 179 = .ok (.bipush 11, 2) := by decide +kernel
theorem dX8_character_181 : decode cX8_character 181 = .ok (.iaload, 1) := by decide +kernel
theorem dX8_character_182 : decode cX8_character 182 = .ok (.iastore, 1) := by decide +kernel
theorem dX8_character_183 : decode cX8_character 183 = .ok (.aload_n 0, 1) := by decide +kernel
theorem dX8_character_184 : decode cX8_character 184 = .ok (.dup, 1) := by decide +kernel
theorem dX8_character_185 : decode cX8_character 185 = .ok (.getfield 100, 3) := by decide +kernel
theorem dX8_character_188 : decode cX8_character 188 = .ok (.iconst 1, 1) := by decide +kernel
theorem dX8_character_189 : decode cX8_character 189 = .ok (.iadd, 1) := by decide +kernel
theorem dX8_character_190 : decode cX8_character 190 = .ok (.putfield 100, 3) := by decide +kernel
theorem dX8_character_193 : decode cX8_character 193 = .ok (.aload_n 0, 1) := by decide +kernel
theorem dX8_character_194 : decode cX8_character 194 = .ok (.dup, 1) := by decide +kernel
theorem dX8_character_195 : decode cX8_character 195 = .ok (.getfield 97, 3) := by decide +kernel
theorem dX8_character_198 : decode cX8_character 198 = .ok (.iconst 1, 1) := by decide +kernel
theorem dX8_character_199 : decode cX8_character 199 = .ok (.iadd, 1) := by decide +kernel
theorem dX8_character_200 : decode cX8_character 200 = .ok (.putfield 97, 3) := by decide +kernel
theorem dX8_character_203 : decode cX8_character 203 = .ok (.aload_n 0, 1) := by decide +kernel
theorem dX8_character_204 : decode cX8_character 204 = .ok (.aload_n 0, 1) := by decide +kernel
theorem dX8_character_205 : decode cX8_character 205 = .ok (.getfield 7, 3) := by decide +kernel
theorem dX8_character_208 : decode cX8_character 208 = .ok (.iconst 0, 1) := by decide +kernel
theorem dX8_character_209 : decode cX8_character 209 = .ok (.iaload, 1) := by decide +kernel
theorem dX8_character_210 : decode cX8_character 210 = .ok (.i2l, 1) := by decide +kernel
theorem dX8_character_211 : decode cX8_character 211 = .ok (.iload_n 3, 1) := by decide +kernel
theorem dX8_character_212 : decode cX8_character 212 = .ok (.i2l, 1) := by decide +kernel
theorem dX8_character_213 : decode cX8_character 213 = .ok (.ladd, 1) := by decide +kernel
theorem dX8_character_214 : decode cX8_character 214 = .ok (.invokevirtual 77, 3) := by decide +kernel
theorem dX8_character_217 : decode cX8_character 217 = .ok (.return_, 1) := by decide +kernel
theorem dX8_tab_0 : decode cX8_tab 0 = .ok (.aload_n 0, 1) := by decide +kernel
theorem dX8_tab_1 : decode cX8_tab 1 = .ok (.getfield 7, 3) := by decide +kernel
theorem dX8_tab_4 : decode cX8_tab 4 = .ok (.iconst 0, 1) := by decide +kernel
theorem dX8_tab_5 : decode cX8_tab 5 = .ok (.iaload, 1) := by decide +kernel
theorem dX8_tab_6 : decode cX8_tab 6 = .ok (.aload_n 0, 1) := by decide +kernel
theorem dX8_tab_7 : decode cX8_tab 7 = .ok (.getfield 7, 3) := by decide +kernel
theorem dX8_tab_10 : decode cX8_tab 10 = .ok (.iconst 2, 1) := by decide +kernel
theorem dX8_tab_11 : decode cX8_tab 11 = .ok (.iaload, 1) := by decide +kernel
theorem dX8_tab_12 : decode cX8_tab 12 = .ok (.if_icmp .ge 17, 3) := by decide +kernel
theorem dX8_tab_15 : decode cX8_tab 15 = .ok (.aload_n 0, 1) := by decide +kernel
theorem dX8_tab_16 : decode cX8_tab 16 = .ok (.aload_n 0, 1) := by decide +kernel
theorem dX8_tab_17 : decode cX8_tab 17 = .ok (.getfield 7, 3) := by decide +kernel
theorem dX8_tab_20 : decode cX8_tab 20 = .ok (.iconst 2, 1) := by decide +kernel
theorem dX8_tab_21 : decode cX8_tab 21 = .ok (.iaload, 1) := by decide +kernel
theorem dX8_tab_22 : decode cX8_tab 22 = .ok (.i2l, 1) := by decide +kernel
theorem dX8_tab_23 : decode cX8_tab 23 = .ok (.invokevirtual 77, 3) := by decide +kernel
theorem dX8_tab_26 : decode cX8_tab 26 = .ok (.goto 82, 3) := by decide +kernel
theorem dX8_tab_29 : decode cX8_tab 29 = .ok (.aload_n 0, 1) := by decide +kernel
theorem dX8_tab_30 : decode cX8_tab 30 = .ok (.getfield 7, 3) := by decide +kernel
theorem dX8_tab_33 : decode cX8_tab 33 = .ok (.bipush 6, 2) := by decide +kernel
theorem dX8_tab_35 : decode cX8_tab 35 = .ok (.iaload, 1) := by decide +kernel
theorem dX8_tab_36 : decode cX8_tab 36 = .ok (.ifCond .le 72, 3) := by decide +kernel
theorem dX8_tab_39 : decode cX8_tab 39 = .ok (.ldc2_w 117, 3) := by decide +kernel
theorem dX8_tab_42 : decode cX8_tab 42 = .ok (.aload_n 0, 1) := by decide +kernel
theorem dX8_tab_43 : decode cX8_tab 43 = .ok (.getfield 7, 3) := by decide +kernel
theorem dX8_tab_46 : decode cX8_tab 46 = .ok (.bipush 6, 2) := by decide +kernel
theorem dX8_tab_48 : decode cX8_tab 48 = .ok (.iaload, 1) := by decide +kernel
theorem dX8_tab_49 : decode cX8_tab 49 = .ok (.i2l, 1) := by decide +kernel
theorem dX8_tab_50 : decode cX8_tab 50 = .ok (.lmul, 1) := by decide +kernel
theorem dX8_tab_51 : decode cX8_tab 51 = .ok (.lstore_n 1, 1) := by decide +kernel
theorem dX8_tab_52 : decode cX8_tab 52 = .ok (.aload_n 0, 1) := by decide +kernel
theorem dX8_tab_53 : decode cX8_tab 53 = .ok (.getfield 7, 3) := by decide +kernel
theorem dX8_tab_56 : decode cX8_tab 56 = .ok (.iconst 2, 1) := by decide +kernel
theorem dX8_tab_57 : decode cX8_tab 57 = .ok (.iaload, 1) := by decide +kernel
theorem dX8_tab_58 : decode cX8_tab 58 = .ok (.i2l, 1) := by decide +kernel
theorem dX8_tab_59 : decode cX8_tab 59 = .ok (.aload_n 0, 1) := by decide +kernel
theorem dX8_tab_60 : decode cX8_tab 60 = .ok (.getfield 7, 3) := by decide +kernel
theorem dX8_tab_63 : decode cX8_tab 63 = .ok (.iconst 0, 1) := by decide +kernel
theorem dX8_tab_64 : decode cX8_tab 64 = .ok (.iaload, 1) := by decide +kernel
theorem dX8_tab_65 : decode cX8_tab 65 = .ok (.aload_n 0, 1) := by decide +kernel
theorem dX8_tab_66 : decode cX8_tab 66 = .ok (.getfield 7, 3) := by decide +kernel
theorem dX8_tab_69 : decode cX8_tab 69 = .ok (.iconst 2, 1) := by decide +kernel
theorem dX8_tab_70 : decode cX8_tab 70 = .ok (.iaload, 1) := by decide +kernel
theorem dX8_tab_71 : decode cX8_tab 71 = .ok (.isub, 1) := by decide +kernel
theorem dX8_tab_72 : decode cX8_tab 72 = .ok (.i2l, 1) := by decide +kernel
theorem dX8_tab_73 : decode cX8_tab 73 = .ok (.lload_n 1, 1) := by decide +kernel
theorem dX8_tab_74 : decode cX8_tab 74 = .ok (.ldiv, 1) := by decide +kernel
theorem dX8_tab_75 : decode cX8_tab 75 = .ok (.lconst 1, 1) := by decide +kernel
theorem dX8_tab_76 : decode cX8_tab 76 = .ok (.ladd, 1) := by decide +kernel
theorem dX8_tab_77 : decode cX8_tab 77 = .ok (.lload_n 1, 1) := by decide +kernel
theorem dX8_tab_78 : decode cX8_tab 78 = .ok (.lmul, 1) := by decide +kernel
theorem dX8_tab_79 : decode cX8_tab 79 = .ok (.ladd, 1) := by decide +kernel
theorem dX8_tab_80 : decode cX8_tab 80 = .ok (.lstore_n 3, 1) := by decide +kernel
theorem dX8_tab_81 : decode cX8_tab 81 = .ok (.aload_n 0, 1) := by decide +kernel
theorem dX8_tab_82 : decode cX8_tab 82 = .ok (.lload_n 3, 1) := by decide +kernel
theorem dX8_tab_83 : decode cX8_tab 83 = .ok (.aload_n 0, 1) := by decide +kernel
theorem dX8_tab_84 : decode cX8_tab 84 = .ok (.getfield 7, 3) := by decide +kernel
theorem dX8_tab_87 : decode cX8_tab 87 = .ok (.iconst 3, 1) := by decide +kernel
theorem dX8_tab_88 : decode cX8_tab 88 = .ok (.iaload, 1) := by decide +kernel
theorem dX8_tab_89 : decode cX8_tab 89 = .ok (.i2l, 1) := by decide +kernel
theorem dX8_tab_90 : decode cX8_tab 90 = .ok (.lcmp, 1) := by decide +kernel
theorem dX8_tab_91 : decode cX8_tab 91 = .ok (.ifCond .ge 7, 3) := by decide +kernel
theorem dX8_tab_94 : decode cX8_tab 94 = .ok (.lload_n 3, 1) := by decide +kernel
theorem dX8_tab_95 : decode cX8_tab 95 = .ok (.goto 10, 3) := by decide +kernel
theorem dX8_tab_98 : decode cX8_tab 98 = .ok (.aload_n 0, 1) := by decide +kernel
theorem dX8_tab_99 : decode cX8_tab 99 = .ok (.getfield 7, 3) := by decide +kernel
theorem dX8_tab_102 : decode cX8_tab 102 = .ok (.iconst 3, 1) := by decide +kernel
theorem dX8_tab_103 : decode cX8_tab 103 = .ok (.iaload, 1) := by decide +kernel
theorem dX8_tab_104 : decode cX8_tab 104 = .ok (.i2l, 1) := by decide +kernel
theorem dX8_tab_105 : decode cX8_tab 105 = .ok (.invokevirtual 77, 3) := by decide +kernel
theorem dX8_tab_108 : decode cX8_tab 108 = .ok (.return_, 1) := by decide +kernel
theorem dX8_control_0 : decode cX8_control 0 = .ok (.aload_n 0, 1) := by decide +kernel
theorem dX8_control_1 : decode cX8_control 1 = .ok (.getfield 7, 3) := by decide +kernel
theorem dX8_control_4 : decode cX8_control 4 = .ok (.bipush 10, 2) := by decide +kernel
theorem dX8_control_6 : decode cX8_control 6 = .ok (.iaload, 1) := by decide +kernel
theorem dX8_control_7 : decode cX8_control 7 = .ok (.iconst 1, 1) := by decide +kernel
theorem dX8_control_8 : decode cX8_control 8 = .ok (.if_icmp .le 7, 3) := by decide +kernel
theorem dX8_control_11 : decode cX8_control 11 = .ok (.iconst 1, 1) := by decide +kernel
theorem dX8_control_12 : decode cX8_control 12 = .ok (.goto 4, 3) := by decide +kernel
theorem dX8_control_15 : decode cX8_control 15 = .ok (.iconst 0, 1) := by decide +kernel
theorem dX8_control_16 : decode cX8_control 16 = .ok (.istore_n 2, 1) := by decide +kernel
theorem dX8_control_17 : decode cX8_control 17 = .ok (.iload_n 1, 1) := by decide +kernel
theorem dX8_control_18 : decode cX8_control 18 = .ok (.bipush 8, 2) := by decide +kernel
theorem dX8_control_20 : decode cX8_control 20 = .ok (.if_icmp .ne 69, 3) := by decide +kernel
theorem dX8_control_23 : decode cX8_control 23 = .ok (.aload_n 0, 1) := by decide +kernel
theorem dX8_control_24 : decode cX8_control 24 = .ok (.getfield 7, 3) := by decide +kernel
theorem dX8_control_27 : decode cX8_control 27 = .ok (.iconst 0, 1) := by decide +kernel
theorem dX8_control_28 : decode cX8_control 28 = .ok (.iaload, 1) := by decide +kernel
theorem dX8_control_29 : decode cX8_control 29 = .ok (.aload_n 0, 1) := by decide +kernel
theorem dX8_control_30 : decode cX8_control 30 = .ok (.getfield 7, 3) := by decide +kernel
theorem dX8_control_33 : decode cX8_control 33 = .ok (.iconst 2, 1) := by decide +kernel
theorem dX8_control_34 : decode cX8_control 34 = .ok (.iaload, 1) := by decide +kernel
theorem dX8_control_35 : decode cX8_control 35 = .ok (.if_icmp .lt 12, 3) := by decide +kernel
theorem dX8_control_38 : decode cX8_control 38 = .ok (.aload_n 0, 1) := by decide +kernel
theorem dX8_control_39 : decode cX8_control 39 = .ok (.getfield 7, 3) := by decide +kernel
theorem dX8_control_42 : decode cX8_control 42 = .ok (.iconst 2, 1) := by decide +kernel
theorem dX8_control_43 : decode cX8_control 43 = .ok (.iaload, 1) := by decide +kernel
theorem dX8_control_44 : decode cX8_control 44 = .ok (.goto 4, 3) := by decide +kernel
theorem dX8_control_47 : decode cX8_control 47 = .ok (.iconst 0, 1) := by decide +kernel
theorem dX8_control_48 : decode cX8_control 48 = .ok (.istore_n 3, 1) := by decide +kernel
theorem dX8_control_49 : decode cX8_control 49 = .ok (.aload_n 0, 1) := by decide +kernel
theorem dX8_control_50 : decode cX8_control 50 = .ok (.getfield 7, 3) := by decide +kernel
theorem dX8_control_53 : decode cX8_control 53 = .ok (.iconst 0, 1) := by decide +kernel
theorem dX8_control_54 : decode cX8_control 54 = .ok (.iaload, 1) := by decide +kernel
theorem dX8_control_55 : decode cX8_control 55 = .ok (.i2l, 1) := by decide +kernel
theorem dX8_control_56 : decode cX8_control 56 = .ok (.aload_n 0, 1) := by decide +kernel
theorem dX8_control_57 : decode cX8_control 57 = .ok (.getfield 7, 3) := by decide +kernel
theorem dX8_control_60 : decode cX8_control 60 = .ok (.bipush 6, 2) := by decide +kernel
theorem dX8_control_62 : decode cX8_control 62 = .ok (.iaload, 1) := by decide +kernel
theorem dX8_control_63 : decode cX8_control 63 = .ok (.i2l, 1) := by decide +kernel
theorem dX8_control_64 : decode cX8_control 64 = .ok (.lsub, 1) := by decide +kernel
theorem dX8_control_65 : decode cX8_control 65 = .ok (.lstore 4, 2) := by decide +kernel
theorem dX8_control_67 : decode cX8_control 67 = .ok (.aload_n 0, 1) := by decide +kernel
theorem dX8_control_68 : decode cX8_control 68 = .ok (.lload 4, 2) := by decide +kernel
theorem dX8_control_70 : decode cX8_control 70 = .ok (.iload_n 3, 1) := by decide +kernel
theorem dX8_control_71 : decode cX8_control 71 = .ok (.i2l, 1) := by decide +kernel
theorem dX8_control_72 : decode cX8_control 72 = .ok (.lcmp, 1) := by decide +kernel
theorem dX8_control_73 : decode cX8_control 73 = .ok (.ifCond .ge 8, 3) := by decide +kernel
theorem dX8_control_76 : decode cX8_control 76 = .ok (.iload_n 3, 1) := by decide +kernel
theorem dX8_control_77 : decode cX8_control 77 = .ok (.i2l, 1) := by decide +kernel
theorem dX8_control_78 : decode cX8_control 78 = .ok (.goto 5, 3) := by decide +kernel
theorem dX8_control_81 : decode cX8_control 81 = .ok (.lload 4, 2) := by decide +kernel
theorem dX8_control_83 : decode cX8_control 83 = .ok (.invokevirtual 77, 3) := by decide +kernel
theorem dX8_control_86 : decode cX8_control 86 = .ok (.goto 123, 3) := by decide +kernel
theorem dX8_control_89 : decode cX8_control 89 = .ok (.iload_n 1, 1) := by decide +kernel
theorem dX8_control_90 : decode cX8_control 90 = .ok (.bipush 9, 2) := by decide +kernel
theorem dX8_control_92 : decode cX8_control 92 = .ok (.if_icmp .ne 10, 3) := by decide +kernel
theorem dX8_control_95 : decode cX8_control 95 = .ok (.aload_n 0, 1) := by decide +kernel
theorem dX8_control_96 : decode cX8_control 96 = .ok (.invokevirtual 119, 3) := by decide +kernel
theorem dX8_control_99 : decode cX8_control 99 = .ok (.goto 110, 3) := by decide +kernel
theorem dX8_control_102 : decode cX8_control 102 = .ok (.iload_n 1, 1) := by decide +kernel
theorem dX8_control_103 : decode cX8_control 103 = .ok (.bipush 10, 2) := by decide +kernel
theorem dX8_control_105 : decode cX8_control 105 = .ok (.if_icmp .eq 9, 3) := by decide +kernel
theorem dX8_control_108 : decode cX8_control 108 = .ok (.iload_n 1, 1) := by decide +kernel
theorem dX8_control_109 : decode cX8_control 109 = .ok (.bipush 12, 2) := by decide +kernel
theorem dX8_control_111 : decode cX8_control 111 = .ok (.if_icmp .ne 38, 3) := by decide +kernel
theorem dX8_control_114 : decode cX8_control 114 = .ok (.iload_n 2, 1) := by decide +kernel
theorem dX8_control_115 : decode cX8_control 115 = .ok (.ifCond .eq 7, 3) := by decide +kernel
theorem dX8_control_118 : decode cX8_control 118 = .ok (.aload_n 0, 1) := by decide +kernel
theorem dX8_control_119 : decode cX8_control 119 = .ok (.invokevirtual 110, 3) := by decide +kernel
theorem dX8_control_122 : decode cX8_control 122 = .ok (.iload_n 1, 1) := by decide +kernel
theorem dX8_control_123 : decode cX8_control 123 = .ok (.bipush 10, 2) := by decide +kernel
theorem dX8_control_125 : decode cX8_control 125 = .ok (.if_icmp .ne 17, 3) := by decide +kernel
theorem dX8_control_128 : decode cX8_control 128 = .ok (.aload_n 0, 1) := by decide +kernel
theorem dX8_control_129 : decode cX8_control 129 = .ok (.aload_n 0, 1) := by decide +kernel
theorem dX8_control_130 : decode cX8_control 130 = .ok (.getfield 7, 3) := by decide +kernel
theorem dX8_control_133 : decode cX8_control 133 = .ok (.bipush 7, 2) := by decide +kernel
theorem dX8_control_135 : decode cX8_control 135 = .ok (.iaload, 1) := by decide +kernel
theorem dX8_control_136 : decode cX8_control 136 = .ok (.invokevirtual 113, 3) := by decide +kernel
theorem dX8_control_139 : decode cX8_control 139 = .ok (.goto 70, 3) := by decide +kernel
theorem dX8_control_142 : decode cX8_control 142 = .ok (.aload_n 0, 1) := by decide +kernel
theorem dX8_control_143 : decode cX8_control 143 = .ok (.invokevirtual 107, 3) := by decide +kernel
theorem dX8_control_146 : decode cX8_control 146 = .ok (.goto 63, 3) := by decide +kernel
theorem dX8_control_149 : decode cX8_control 149 = .ok (.iload_n 1, 1) := by decide +kernel
theorem dX8_control_150 : decode cX8_control 150 = .ok (.bipush 13, 2) := by decide +kernel
theorem dX8_control_152 : decode cX8_control 152 = .ok (.if_icmp .ne 34, 3) := by decide +kernel
theorem dX8_control_155 : decode cX8_control 155 = .ok (.aload_n 0, 1) := by decide +kernel
theorem dX8_control_156 : decode cX8_control 156 = .ok (.invokevirtual 110, 3) := by decide +kernel
theorem dX8_control_159 : decode cX8_control 159 = .ok (.aload_n 0, 1) := by decide +kernel
theorem dX8_control_160 : decode cX8_control 160 = .ok (.getfield 7, 3) := by decide +kernel
theorem dX8_control_163 : decode cX8_control 163 = .ok (.bipush 10, 2) := by decide +kernel
theorem dX8_control_165 : decode cX8_control 165 = .ok (.iaload, 1) := by decide +kernel
theorem dX8_control_166 : decode cX8_control 166 = .ok (.iconst 2, 1) := by decide +kernel
theorem dX8_control_167 : decode cX8_control 167 = .ok (.irem, 1) := by decide +kernel
theorem dX8_control_168 : decode cX8_control 168 = .ok (.iconst 1, 1) := by decide +kernel
theorem dX8_control_169 : decode cX8_control 169 = .ok (.if_icmp .ne 40, 3) := by decide +kernel
theorem dX8_control_172 : decode cX8_control 172 = .ok (.aload_n 0, 1) := by decide +kernel
theorem dX8_control_173 : decode cX8_control 173 = .ok (.aload_n 0, 1) := by decide +kernel
theorem dX8_control_174 : decode cX8_control 174 = .ok (.getfield 7, 3) := by decide +kernel
theorem dX8_control_177 : decode cX8_control 177 = .ok (.bipush 7, 2) := by decide +kernel
theorem dX8_control_179 : decode cX8_control 179 = .ok (.iaload, 1) := by decide +kernel
theorem dX8_control_180 : decode cX8_control 180 = .ok (.invokevirtual 113, 3) := by decide +kernel
theorem dX8_control_183 : decode cX8_control 183 = .ok (.goto 26, 3) := by decide +kernel
theorem dX8_control_186 : decode cX8_control 186 = .ok (.iload_n 1, 1) := by decide +kernel
theorem dX8_control_187 : decode cX8_control 187 = .ok (.bipush 14, 2) := by decide +kernel
theorem dX8_control_189 : decode cX8_control 189 = .ok (.if_icmp .eq 9, 3) := by decide +kernel
theorem dX8_control_192 : decode cX8_control 192 = .ok (.iload_n 1, 1) := by decide +kernel
theorem dX8_control_193 : decode cX8_control 193 = .ok (.bipush 15, 2) := by decide +kernel
theorem dX8_control_195 : decode cX8_control 195 = .ok (.if_icmp .ne 14, 3) := by decide +kernel
theorem dX8_control_198 : decode cX8_control 198 = .ok (.aload_n 0, 1) := by decide +kernel
theorem dX8_control_199 : decode cX8_control 199 = .ok (.getfield 7, 3) := by decide +kernel
theorem dX8_control_202 : decode cX8_control 202 = .ok (.bipush 11, 2) := by decide +kernel
theorem dX8_control_204 : decode cX8_control 204 = .ok (.bipush 15, 2) := by decide +kernel
theorem dX8_control_206 : decode cX8_control 206 = .ok (.iload_n 1, 1) := by decide +kernel
theorem dX8_control_207 : decode cX8_control 207 = .ok (.isub, 1) := by decide +kernel
theorem dX8_control_208 : decode cX8_control 208 = .ok (.iastore, 1) := by decide +kernel
theorem dX8_control_209 : decode cX8_control 209 = .ok (.return_, 1) := by decide +kernel
theorem dX8_shortSequence_0 : decode cX8_shortSequence 0 = .ok (.iload_n 1, 1) := by decide +kernel
theorem dX8_shortSequence_1 : decode cX8_shortSequence 1 = .ok (.bipush 69, 2) := by decide +kernel
theorem dX8_shortSequence_3 : decode cX8_shortSequence 3 = .ok (.if_icmp .ne 14, 3) := by decide +kernel
theorem dX8_shortSequence_6 : decode cX8_shortSequence 6 = .ok (.aload_n 0, 1) := by decide +kernel
theorem dX8_shortSequence_7 : decode cX8_shortSequence 7 = .ok (.invokevirtual 122, 3) := by decide +kernel
theorem dX8_shortSequence_10 : decode cX8_shortSequence 10 = .ok (.aload_n 0, 1) := by decide +kernel
theorem dX8_shortSequence_11 : decode cX8_shortSequence 11 = .ok (.invokevirtual 36, 3) := by decide +kernel
theorem dX8_shortSequence_14 : decode cX8_shortSequence 14 = .ok (.goto 48, 3) := by decide +kernel
theorem dX8_shortSequence_17 : decode cX8_shortSequence 17 = .ok (.iload_n 1, 1) := by decide +kernel
theorem dX8_shortSequence_18 : decode cX8_shortSequence 18 = .ok (.bipush 57, 2) := by decide +kernel
theorem dX8_shortSequence_20 : decode cX8_shortSequence 20 = .ok (.if_icmp .ne 23, 3) := by decide +kernel
theorem dX8_shortSequence_23 : decode cX8_shortSequence 23 = .ok (.aload_n 0, 1) := by decide +kernel
theorem dX8_shortSequence_24 : decode cX8_shortSequence 24 = .ok (.getfield 7, 3) := by decide +kernel
theorem dX8_shortSequence_27 : decode cX8_shortSequence 27 = .ok (.iconst 2, 1) := by decide +kernel
theorem dX8_shortSequence_28 : decode cX8_shortSequence 28 = .ok (.iconst 0, 1) := by decide +kernel
theorem dX8_shortSequence_29 : decode cX8_shortSequence 29 = .ok (.iastore, 1) := by decide +kernel
theorem dX8_shortSequence_30 : decode cX8_shortSequence 30 = .ok (.aload_n 0, 1) := by decide +kernel
theorem dX8_shortSequence_31 : decode cX8_shortSequence 31 = .ok (.getfield 7, 3) := by decide +kernel
theorem dX8_shortSequence_34 : decode cX8_shortSequence 34 = .ok (.iconst 3, 1) := by decide +kernel
theorem dX8_shortSequence_35 : decode cX8_shortSequence 35 = .ok (.aload_n 0, 1) := by decide +kernel
theorem dX8_shortSequence_36 : decode cX8_shortSequence 36 = .ok (.getfield 64, 3) := by decide +kernel
theorem dX8_shortSequence_39 : decode cX8_shortSequence 39 = .ok (.iastore, 1) := by decide +kernel
theorem dX8_shortSequence_40 : decode cX8_shortSequence 40 = .ok (.goto 22, 3) := by decide +kernel
theorem dX8_shortSequence_43 : decode cX8_shortSequence 43 = .ok (.iload_n 1, 1) := by decide +kernel
theorem dX8_shortSequence_44 : decode cX8_shortSequence 44 = .ok (.bipush 61, 2) := by decide +kernel
theorem dX8_shortSequence_46 : decode cX8_shortSequence 46 = .ok (.if_icmp .ne 16, 3) := by decide +kernel
theorem dX8_shortSequence_49 : decode cX8_shortSequence 49 = .ok (.aload_n 0, 1) := by decide +kernel
theorem dX8_shortSequence_50 : decode cX8_shortSequence 50 = .ok (.aload_n 0, 1) := by decide +kernel
theorem dX8_shortSequence_51 : decode cX8_shortSequence 51 = .ok (.getfield 7, 3) := by decide +kernel
theorem dX8_shortSequence_54 : decode cX8_shortSequence 54 = .ok (.bipush 7, 2) := by decide +kernel
theorem dX8_shortSequence_56 : decode cX8_shortSequence 56 = .ok (.iaload, 1) := by decide +kernel
theorem dX8_shortSequence_57 : decode cX8_shortSequence 57 = .ok (.iconst 2, 1) := by decide +kernel
theorem dX8_shortSequence_58 : decode cX8_shortSequence 58 = .ok (.idiv, 1) := by decide +kernel
theorem dX8_shortSequence_59 : decode cX8_shortSequence 59 = .ok (.invokevirtual 113, 3) := by decide +kernel
theorem dX8_shortSequence_62 : decode cX8_shortSequence 62 = .ok (.return_, 1) := by decide +kernel
theorem dX8_beginField_0 : decode cX8_beginField 0 = .ok (.aload_n 0, 1) := by decide +kernel
theorem dX8_beginField_1 : decode cX8_beginField 1 = .ok (.iconst 0, 1) := by decide +kernel
theorem dX8_beginField_2 : decode cX8_beginField 2 = .ok (.putfield 125, 3) := by decide +kernel
theorem dX8_beginField_5 : decode cX8_beginField 5 = .ok (.aload_n 0, 1) := by decide +kernel
theorem dX8_beginField_6 : decode cX8_beginField 6 = .ok (.iconst 0, 1) := by decide +kernel
theorem dX8_beginField_7 : decode cX8_beginField 7 = .ok (.putfield 128, 3) := by decide +kernel
theorem dX8_beginField_10 : decode cX8_beginField 10 = .ok (.aload_n 0, 1) := by decide +kernel
theorem dX8_beginField_11 : decode cX8_beginField 11 = .ok (.iconst 0, 1) := by decide +kernel
theorem dX8_beginField_12 : decode cX8_beginField 12 = .ok (.putfield 131, 3) := by decide +kernel
theorem dX8_beginField_15 : decode cX8_beginField 15 = .ok (.aload_n 0, 1) := by decide +kernel
theorem dX8_beginField_16 : decode cX8_beginField 16 = .ok (.iconst 0, 1) := by decide +kernel
theorem dX8_beginField_17 : decode cX8_beginField 17 = .ok (.putfield 134, 3) := by decide +kernel
theorem dX8_beginField_20 : decode cX8_beginField 20 = .ok (.aload_n 0, 1) := by decide +kernel
theorem dX8_beginField_21 : decode cX8_beginField 21 = .ok (.iconst 0, 1) := by decide +kernel
theorem dX8_beginField_22 : decode cX8_beginField 22 = .ok (.putfield 137, 3) := by decide +kernel
theorem dX8_beginField_25 : decode cX8_beginField 25 = .ok (.aload_n 0, 1) := by decide +kernel
theorem dX8_beginField_26 : decode cX8_beginField 26 = .ok (.iconst 0, 1) := by decide +kernel
theorem dX8_beginField_27 : decode cX8_beginField 27 = .ok (.putfield 140, 3) := by decide +kernel
theorem dX8_beginField_30 : decode cX8_beginField 30 = .ok (.return_, 1) := by decide +kernel
theorem dX8_behindEsc_0 : decode cX8_behindEsc 0 = .ok (.iload_n 1, 1) := by decide +kernel
theorem dX8_behindEsc_1 : decode cX8_behindEsc 1 = .ok (.bipush 48, 2) := by decide +kernel
theorem dX8_behindEsc_3 : decode cX8_behindEsc 3 = .ok (.if_icmp .lt 22, 3) := by decide +kernel
theorem dX8_behindEsc_6 : decode cX8_behindEsc 6 = .ok (.iload_n 1, 1) := by decide +kernel
theorem dX8_behindEsc_7 : decode cX8_behindEsc 7 = .ok (.bipush 126, 2) := by decide +kernel
theorem dX8_behindEsc_9 : decode cX8_behindEsc 9 = .ok (.if_icmp .gt 16, 3) := by decide +kernel
theorem dX8_behindEsc_12 : decode cX8_behindEsc 12 = .ok (.aload_n 0, 1) := by decide +kernel
theorem dX8_behindEsc_13 : decode cX8_behindEsc 13 = .ok (.iconst 0, 1) := by decide +kernel
theorem dX8_behindEsc_14 : decode cX8_behindEsc 14 = .ok (.putfield 143, 3) := by decide +kernel
theorem dX8_behindEsc_17 : decode cX8_behindEsc 17 = .ok (.aload_n 0, 1) := by decide +kernel
theorem dX8_behindEsc_18 : decode cX8_behindEsc 18 = .ok (.iload_n 1, 1) := by decide +kernel
theorem dX8_behindEsc_19 : decode cX8_behindEsc 19 = .ok (.invokevirtual 146, 3) := by decide +kernel
theorem dX8_behindEsc_22 : decode cX8_behindEsc 22 = .ok (.goto 48, 3) := by decide +kernel
theorem dX8_behindEsc_25 : decode cX8_behindEsc 25 = .ok (.iload_n 1, 1) := by decide +kernel
theorem dX8_behindEsc_26 : decode cX8_behindEsc 26 = .ok (.bipush 33, 2) := by decide +kernel
theorem dX8_behindEsc_28 : decode cX8_behindEsc 28 = .ok (.if_icmp .lt 27, 3) := by decide +kernel
theorem dX8_behindEsc_31 : decode cX8_behindEsc 31 = .ok (.iload_n 1, 1) := by decide +kernel
theorem dX8_behindEsc_32 : decode cX8_behindEsc 32 = .ok (.bipush 47, 2) := by decide +kernel
theorem dX8_behindEsc_34 : decode cX8_behindEsc 34 = .ok (.if_icmp .gt 21, 3) := by decide +kernel
theorem dX8_behindEsc_37 : decode cX8_behindEsc 37 = .ok (.aload_n 0, 1) := by decide +kernel
theorem dX8_behindEsc_38 : decode cX8_behindEsc 38 = .ok (.iconst 2, 1) := by decide +kernel
theorem dX8_behindEsc_39 : decode cX8_behindEsc 39 = .ok (.putfield 143, 3) := by decide +kernel
theorem dX8_behindEsc_42 : decode cX8_behindEsc 42 = .ok (.aload_n 0, 1) := by decide +kernel
theorem dX8_behindEsc_43 : decode cX8_behindEsc 43 = .ok (.iload_n 1, 1) := by decide +kernel
theorem dX8_behindEsc_44 : decode cX8_behindEsc 44 = .ok (.putfield 149, 3) := by decide +kernel
theorem dX8_behindEsc_47 : decode cX8_behindEsc 47 = .ok (.aload_n 0, 1) := by decide +kernel
theorem dX8_behindEsc_48 : decode cX8_behindEsc 48 = .ok (.iconst 0, 1) := by decide +kernel
theorem dX8_behindEsc_49 : decode cX8_behindEsc 49 = .ok (.putfield 152, 3) := by decide +kernel
theorem dX8_behindEsc_52 : decode cX8_behindEsc 52 = .ok (.goto 18, 3) := by decide +kernel
theorem dX8_behindEsc_55 : decode cX8_behindEsc 55 = .ok (.aload_n 0, 1) := by decide +kernel
theorem dX8_behindEsc_56 : decode cX8_behindEsc 56 = .ok (.iload_n 1, 1) := by decide +kernel
theorem dX8_behindEsc_57 : decode cX8_behindEsc 57 = .ok (.bipush 27, 2) := by decide +kernel
theorem dX8_behindEsc_59 : decode cX8_behindEsc 59 = .ok (.if_icmp .ne 7, 3) := by decide +kernel
theorem dX8_behindEsc_62 : decode cX8_behindEsc 62 = .ok (.iconst 1, 1) := by decide +kernel
theorem dX8_behindEsc_63 : decode cX8_behindEsc 63 = .ok (.goto 4, 3) := by decide +kernel
theorem dX8_behindEsc_66 : decode cX8_behindEsc 66 = .ok (.iconst 0, 1) := by decide +kernel
theorem dX8_behindEsc_67 : decode cX8_behindEsc 67 = .ok (.putfield 143, 3) := by decide +kernel
theorem dX8_behindEsc_70 : decode cX8_behindEsc 70 = .ok (.return_, 1) := by decide +kernel
theorem dX8_field_0 : decode cX8_field 0 = .ok (.iload_n 1, 1) := by decide +kernel
theorem dX8_field_1 : decode cX8_field 1 = .ok (.bipush 48, 2) := by decide +kernel
theorem dX8_field_3 : decode cX8_field 3 = .ok (.if_icmp .lt 13, 3) := by decide +kernel
theorem dX8_field_6 : decode cX8_field 6 = .ok (.iload_n 1, 1) := by decide +kernel
theorem dX8_field_7 : decode cX8_field 7 = .ok (.bipush 57, 2) := by decide +kernel
theorem dX8_field_9 : decode cX8_field 9 = .ok (.if_icmp .gt 7, 3) := by decide +kernel
theorem dX8_field_12 : decode cX8_field 12 = .ok (.iconst 1, 1) := by decide +kernel
theorem dX8_field_13 : decode cX8_field 13 = .ok (.goto 4, 3) := by decide +kernel
theorem dX8_field_16 : decode cX8_field 16 = .ok (.iconst 0, 1) := by decide +kernel
theorem dX8_field_17 : decode cX8_field 17 = .ok (.istore_n 2, 1) := by decide +kernel
theorem dX8_field_18 : decode cX8_field 18 = .ok (.aload_n 0, 1) := by decide +kernel
theorem dX8_field_19 : decode cX8_field 19 = .ok (.getfield 125, 3) := by decide +kernel
theorem dX8_field_22 : decode cX8_field 22 = .ok (.ifCond .ne 43, 3) := by decide +kernel
theorem dX8_field_25 : decode cX8_field 25 = .ok (.iload_n 1, 1) := by decide +kernel
theorem dX8_field_26 : decode cX8_field 26 = .ok (.bipush 43, 2) := by decide +kernel
theorem dX8_field_28 : decode cX8_field 28 = .ok (.if_icmp .eq 9, 3) := by decide +kernel
theorem dX8_field_31 : decode cX8_field 31 = .ok (.iload_n 1, 1) := by decide +kernel
theorem dX8_field_32 : decode cX8_field 32 = .ok (.bipush 45, 2) := by decide +kernel
theorem dX8_field_34 : decode cX8_field 34 = .ok (.if_icmp .ne 31, 3) := by decide +kernel
theorem dX8_field_37 : decode cX8_field 37 = .ok (.aload_n 0, 1) := by decide +kernel
theorem dX8_field_38 : decode cX8_field 38 = .ok (.iconst 1, 1) := by decide +kernel
theorem dX8_field_39 : decode cX8_field 39 = .ok (.putfield 128, 3) := by decide +kernel
theorem dX8_field_42 : decode cX8_field 42 = .ok (.aload_n 0, 1) := by decide +kernel
theorem dX8_field_43 : decode cX8_field 43 = .ok (.iload_n 1, 1) := by decide +kernel
theorem dX8_field_44 : decode cX8_field 44 = .ok (.bipush 45, 2) := by decide +kernel
theorem dX8_field_46 : decode cX8_field 46 = .ok (.if_icmp .ne 7, 3) := by decide +kernel
theorem dX8_field_49 : decode cX8_field 49 = .ok (.iconst 1, 1) := by decide +kernel
theorem dX8_field_50 : decode cX8_field 50 = .ok (.goto 4, 3) := by decide +kernel
theorem dX8_field_53 : decode cX8_field 53 = .ok (.iconst 0, 1) := by decide +kernel
theorem dX8_field_54 : decode cX8_field 54 = .ok (.putfield 131, 3) := by decide +kernel
theorem dX8_field_57 : decode cX8_field 57 = .ok (.aload_n 0, 1) := by decide +kernel
theorem dX8_field_58 : decode cX8_field 58 = .ok (.iconst 1, 1) := by decide +kernel
theorem dX8_field_59 : decode cX8_field 59 = .ok (.putfield 125, 3) := by decide +kernel
theorem dX8_field_62 : decode cX8_field 62 = .ok (.goto 219, 3) := by decide +kernel
theorem dX8_field_65 : decode cX8_field 65 = .ok (.aload_n 0, 1) := by decide +kernel
theorem dX8_field_66 : decode cX8_field 66 = .ok (.getfield 125, 3) := by decide +kernel
theorem dX8_field_69 : decode cX8_field 69 = .ok (.iconst 2, 1) := by decide +kernel
theorem dX8_field_70 : decode cX8_field 70 = .ok (.if_icmp .ge 55, 3) := by decide +kernel
theorem dX8_field_73 : decode cX8_field 73 = .ok (.iload_n 2, 1) := by decide +kernel
theorem dX8_field_74 : decode cX8_field 74 = .ok (.ifCond .eq 51, 3) := by decide +kernel
theorem dX8_field_77 : decode cX8_field 77 = .ok (.aload_n 0, 1) := by decide +kernel
theorem dX8_field_78 : decode cX8_field 78 = .ok (.aload_n 0, 1) := by decide +kernel
theorem dX8_field_79 : decode cX8_field 79 = .ok (.getfield 134, 3) := by decide +kernel
theorem dX8_field_82 : decode cX8_field 82 = .ok (.bipush 10, 2) := by decide +kernel
theorem dX8_field_84 : decode cX8_field 84 = .ok (.imul, 1) := by decide +kernel
theorem dX8_field_85 : decode cX8_field 85 = .ok (.iload_n 1, 1) := by decide +kernel
theorem dX8_field_86 : decode cX8_field 86 = .ok (.iadd, 1) := by decide +kernel
theorem dX8_field_87 : decode cX8_field 87 = .ok (.bipush 48, 2) := by decide +kernel
theorem dX8_field_89 : decode cX8_field 89 = .ok (.isub, 1) := by decide +kernel
theorem dX8_field_90 : decode cX8_field 90 = .ok (.sipush 32767, 3) := by decide +kernel
theorem dX8_field_93 : decode cX8_field 93 = .ok (.if_icmp .le 9, 3) := by decide +kernel
theorem dX8_field_96 : decode cX8_field 96 = .ok (.sipush 32767, 3) := by decide +kernel
theorem dX8_field_99 : decode cX8_field 99 = .ok (.goto 15, 3) := by decide +kernel
theorem dX8_field_102 : decode cX8_field 102 = .ok (.aload_n 0, 1) := by decide +kernel
theorem dX8_field_103 : decode cX8_field 103 = .ok (.getfield 134, 3) := by decide +kernel
theorem dX8_field_106 : decode cX8_field 106 = .ok (.bipush 10, 2) := by decide +kernel
theorem dX8_field_108 : decode cX8_field 108 = .ok (.imul, 1) := by decide +kernel
theorem dX8_field_109 : decode cX8_field 109 = .ok (.iload_n 1, 1) := by decide +kernel
theorem dX8_field_110 : decode cX8_field 110 = .ok (.iadd, 1) := by decide +kernel
theorem dX8_field_111 : decode cX8_field 111 = .ok (.bipush 48, 2) := by decide +kernel
theorem dX8_field_113 : decode cX8_field 113 = .ok (.isub, 1) := by decide +kernel
theorem dX8_field_114 : decode cX8_field 114 = .ok (.putfield 134, 3) := by decide +kernel
theorem dX8_field_117 : decode cX8_field 117 = .ok (.aload_n 0, 1) := by decide +kernel
theorem dX8_field_118 : decode cX8_field 118 = .ok (.iconst 1, 1) := by decide +kernel
theorem dX8_field_119 : decode cX8_field 119 = .ok (.putfield 125, 3) := by decide +kernel
theorem dX8_field_122 : decode cX8_field 122 = .ok (.goto 159, 3) := by decide +kernel
theorem dX8_field_125 : decode cX8_field 125 = .ok (.aload_n 0, 1) := by decide +kernel
theorem dX8_field_126 : decode cX8_field 126 = .ok (.getfield 125, 3) := by decide +kernel
theorem dX8_field_129 : decode cX8_field 129 = .ok (.iconst 2, 1) := by decide +kernel
theorem dX8_field_130 : decode cX8_field 130 = .ok (.if_icmp .ge 17, 3) := by decide +kernel
theorem dX8_field_133 : decode cX8_field 133 = .ok (.iload_n 1, 1) := by decide +kernel
theorem dX8_field_134 : decode cX8_field 134 = .ok (.bipush 46, 2) := by decide +kernel
theorem dX8_field_136 : decode cX8_field 136 = .ok (.if_icmp .ne 11, 3) := by decide +kernel
theorem dX8_field_139 : decode cX8_field 139 = .ok (.aload_n 0, 1) := by decide +kernel
theorem dX8_field_140 : decode cX8_field 140 = .ok (.iconst 2, 1) := by decide +kernel
theorem dX8_field_141 : decode cX8_field 141 = .ok (.putfield 125, 3) := by decide +kernel
theorem dX8_field_144 : decode cX8_field 144 = .ok (.goto 137, 3) := by decide +kernel
theorem dX8_field_147 : decode cX8_field 147 = .ok (.iload_n 2, 1) := by decide +kernel
theorem dX8_field_148 : decode cX8_field 148 = .ok (.ifCond .eq 62, 3) := by decide +kernel
theorem dX8_field_151 : decode cX8_field 151 = .ok (.aload_n 0, 1) := by decide +kernel
theorem dX8_field_152 : decode cX8_field 152 = .ok (.aload_n 0, 1) := by decide +kernel
theorem dX8_field_153 : decode cX8_field 153 = .ok (.getfield 140, 3) := by decide +kernel
theorem dX8_field_156 : decode cX8_field 156 = .ok (.iconst 4, 1) := by decide +kernel
theorem dX8_field_157 : decode cX8_field 157 = .ok (.if_icmp .ge 18, 3) := by decide +kernel
theorem dX8_field_160 : decode cX8_field 160 = .ok (.bipush 10, 2) := by decide +kernel
theorem dX8_field_162 : decode cX8_field 162 = .ok (.aload_n 0, 1) := by decide +kernel
theorem dX8_field_163 : decode cX8_field 163 = .ok (.getfield 137, 3) := by decide +kernel
theorem dX8_field_166 : decode cX8_field 166 = .ok (.imul, 1) := by decide +kernel
theorem dX8_field_167 : decode cX8_field 167 = .ok (.iload_n 1, 1) := by decide +kernel
theorem dX8_field_168 : decode cX8_field 168 = .ok (.iadd, 1) := by decide +kernel
theorem dX8_field_169 : decode cX8_field 169 = .ok (.bipush 48, 2) := by decide +kernel
theorem dX8_field_171 : decode cX8_field 171 = .ok (.isub, 1) := by decide +kernel
theorem dX8_field_172 : decode cX8_field 172 = .ok (.goto 7, 3) := by decide +kernel
theorem dX8_field_175 : decode cX8_field 175 = .ok (.aload_n 0, 1) := by decide +kernel
theorem dX8_field_176 : decode cX8_field 176 = .ok (.getfield 137, 3) := by decide +kernel
theorem dX8_field_179 : decode cX8_field 179 = .ok (.putfield 137, 3) := by decide +kernel
theorem dX8_field_182 : decode cX8_field 182 = .ok (.aload_n 0, 1) := by decide +kernel
theorem dX8_field_183 : decode cX8_field 183 = .ok (.aload_n 0, 1) := by decide +kernel
theorem dX8_field_184 : decode cX8_field 184 = .ok (.getfield 140, 3) := by decide +kernel
theorem dX8_field_187 : decode cX8_field 187 = .ok (.iconst 4, 1) := by decide +kernel
theorem dX8_field_188 : decode cX8_field 188 = .ok (.if_icmp .ge 12, 3) := by decide +kernel
theorem dX8_field_191 : decode cX8_field 191 = .ok (.aload_n 0, 1) := by decide +kernel
theorem dX8_field_192 : decode cX8_field 192 = .ok (.getfield 140, 3) := by decide +kernel
theorem dX8_field_195 : decode cX8_field 195 = .ok (.iconst 1, 1) := by decide +kernel
theorem dX8_field_196 : decode cX8_field 196 = .ok (.iadd, 1) := by decide +kernel
theorem dX8_field_197 : decode cX8_field 197 = .ok (.goto 7, 3) := by decide +kernel
theorem dX8_field_200 : decode cX8_field 200 = .ok (.aload_n 0, 1) := by decide +kernel
theorem dX8_field_201 : decode cX8_field 201 = .ok (.getfield 140, 3) := by decide +kernel
theorem dX8_field_204 : decode cX8_field 204 = .ok (.putfield 140, 3) := by decide +kernel
theorem dX8_field_207 : decode cX8_field 207 = .ok (.goto 74, 3) := by decide +kernel
theorem dX8_field_210 : decode cX8_field 210 = .ok (.iload_n 1, 1) := by decide +kernel
theorem dX8_field_211 : decode cX8_field 211 = .ok (.bipush 64, 2) := by decide +kernel
theorem dX8_field_213 : decode cX8_field 213 = .ok (.if_icmp .lt 9, 3) := by decide +kernel
theorem dX8_field_216 : decode cX8_field 216 = .ok (.iload_n 1, 1) := by decide +kernel
theorem dX8_field_217 : decode cX8_field 217 = .ok (.bipush 94, 2) := by decide +kernel
theorem dX8_field_219 : decode cX8_field 219 = .ok (.if_icmp .le 15, 3) := by decide +kernel
theorem dX8_field_222 : decode cX8_field 222 = .ok (.iload_n 1, 1) := by decide +kernel
theorem dX8_field_223 : decode cX8_field 223 = .ok (.bipush 96, 2) := by decide +kernel
theorem dX8_field_225 : decode cX8_field 225 = .ok (.if_icmp .lt 41, 3) := by decide +kernel
theorem dX8_field_228 : decode cX8_field 228 = .ok (.iload_n 1, 1) := by decide +kernel
theorem dX8_field_229 : decode cX8_field 229 = .ok (.bipush 126, 2) := by decide +kernel
theorem dX8_field_231 : decode cX8_field 231 = .ok (.if_icmp .gt 35, 3) := by decide +kernel
theorem dX8_field_234 : decode cX8_field 234 = .ok (.aload_n 0, 1) := by decide +kernel
theorem dX8_field_235 : decode cX8_field 235 = .ok (.iload_n 1, 1) := by decide +kernel
theorem dX8_field_236 : decode cX8_field 236 = .ok (.bipush 96, 2) := by decide +kernel
theorem dX8_field_238 : decode cX8_field 238 = .ok (.if_icmp .lt 10, 3) := by decide +kernel
theorem dX8_field_241 : decode cX8_field 241 = .ok (.iload_n 1, 1) := by decide +kernel
theorem dX8_field_242 : decode cX8_field 242 = .ok (.bipush 32, 2) := by decide +kernel
theorem dX8_field_244 : decode cX8_field 244 = .ok (.isub, 1) := by decide +kernel
theorem dX8_field_245 : decode cX8_field 245 = .ok (.goto 4, 3) := by decide +kernel
theorem dX8_field_248 : decode cX8_field 248 = .ok (.iload_n 1, 1) := by decide +kernel
theorem dX8_field_249 : decode cX8_field 249 = .ok (.iload_n 1, 1) := by decide +kernel
theorem dX8_field_250 : decode cX8_field 250 = .ok (.bipush 96, 2) := by decide +kernel
theorem dX8_field_252 : decode cX8_field 252 = .ok (.if_icmp .ge 7, 3) := by decide +kernel
theorem dX8_field_255 : decode cX8_field 255 = .ok (.iconst 1, 1) := by decide +kernel
theorem dX8_field_256 : decode cX8_field 256 = .ok (.goto 4, 3) := by decide +kernel
theorem dX8_field_259 : decode cX8_field 259 = .ok (.iconst 0, 1) := by decide +kernel
theorem dX8_field_260 : decode cX8_field 260 = .ok (.invokevirtual 155, 3) := by decide +kernel
theorem dX8_field_263 : decode cX8_field 263 = .ok (.goto 18, 3) := by decide +kernel
theorem dX8_field_266 : decode cX8_field 266 = .ok (.aload_n 0, 1) := by decide +kernel
theorem dX8_field_267 : decode cX8_field 267 = .ok (.iload_n 1, 1) := by decide +kernel
theorem dX8_field_268 : decode cX8_field 268 = .ok (.bipush 27, 2) := by decide +kernel
theorem dX8_field_270 : decode cX8_field 270 = .ok (.if_icmp .ne 7, 3) := by decide +kernel
theorem dX8_field_273 : decode cX8_field 273 = .ok (.iconst 1, 1) := by decide +kernel
theorem dX8_field_274 : decode cX8_field 274 = .ok (.goto 4, 3) := by decide +kernel
theorem dX8_field_277 : decode cX8_field 277 = .ok (.iconst 0, 1) := by decide +kernel
theorem dX8_field_278 : decode cX8_field 278 = .ok (.putfield 143, 3) := by decide +kernel
theorem dX8_field_281 : decode cX8_field 281 = .ok (.return_, 1) := by decide +kernel
theorem dX8_value_0 : decode cX8_value 0 = .ok (.aload_n 0, 1) := by decide +kernel
theorem dX8_value_1 : decode cX8_value 1 = .ok (.getfield 137, 3) := by decide +kernel
theorem dX8_value_4 : decode cX8_value 4 = .ok (.istore_n 1, 1) := by decide +kernel
theorem dX8_value_5 : decode cX8_value 5 = .ok (.aload_n 0, 1) := by decide +kernel
theorem dX8_value_6 : decode cX8_value 6 = .ok (.getfield 140, 3) := by decide +kernel
theorem dX8_value_9 : decode cX8_value 9 = .ok (.istore_n 2, 1) := by decide +kernel
theorem dX8_value_10 : decode cX8_value 10 = .ok (.iload_n 2, 1) := by decide +kernel
theorem dX8_value_11 : decode cX8_value 11 = .ok (.iconst 4, 1) := by decide +kernel
theorem dX8_value_12 : decode cX8_value 12 = .ok (.if_icmp .ge 14, 3) := by decide +kernel
theorem dX8_value_15 : decode cX8_value 15 = .ok (.iload_n 1, 1) := by decide +kernel
theorem dX8_value_16 : decode cX8_value 16 = .ok (.bipush 10, 2) := by decide +kernel
theorem dX8_value_18 : decode cX8_value 18 = .ok (.imul, 1) := by decide +kernel
theorem dX8_value_19 : decode cX8_value 19 = .ok (.istore_n 1, 1) := by decide +kernel
theorem dX8_value_20 : decode cX8_value 20 = .ok (.iinc 2 1, 3) := by decide +kernel
theorem dX8_value_23 : decode cX8_value 23 = .ok (.goto (-13), 3) := by decide +kernel
theorem dX8_value_26 : decode cX8_value 26 = .ok (.iload_n 1, 1) := by decide +kernel
theorem dX8_value_27 : decode cX8_value 27 = .ok (.sipush 10000, 3) := by decide +kernel
theorem dX8_value_30 : decode cX8_value 30 = .ok (.aload_n 0, 1) := by decide +kernel
theorem dX8_value_31 : decode cX8_value 31 = .ok (.getfield 134, 3) := by decide +kernel
theorem dX8_value_34 : decode cX8_value 34 = .ok (.imul, 1) := by decide +kernel
theorem dX8_value_35 : decode cX8_value 35 = .ok (.iadd, 1) := by decide +kernel
theorem dX8_value_36 : decode cX8_value 36 = .ok (.istore_n 1, 1) := by decide +kernel
theorem dX8_value_37 : decode cX8_value 37 = .ok (.aload_n 0, 1) := by decide +kernel
theorem dX8_value_38 : decode cX8_value 38 = .ok (.getfield 131, 3) := by decide +kernel
theorem dX8_value_41 : decode cX8_value 41 = .ok (.ifCond .eq 8, 3) := by decide +kernel
theorem dX8_value_44 : decode cX8_value 44 = .ok (.iload_n 1, 1) := by decide +kernel
theorem dX8_value_45 : decode cX8_value 45 = .ok (.ineg, 1) := by decide +kernel
theorem dX8_value_46 : decode cX8_value 46 = .ok (.goto 4, 3) := by decide +kernel
theorem dX8_value_49 : decode cX8_value 49 = .ok (.iload_n 1, 1) := by decide +kernel
theorem dX8_value_50 : decode cX8_value 50 = .ok (.ireturn, 1) := by decide +kernel
theorem dX8_command_0 : decode cX8_command 0 = .ok (.aload_n 0, 1) := by decide +kernel
theorem dX8_command_1 : decode cX8_command 1 = .ok (.invokevirtual 159, 3) := by decide +kernel
theorem dX8_command_4 : decode cX8_command 4 = .ok (.istore_n 3, 1) := by decide +kernel
theorem dX8_command_5 : decode cX8_command 5 = .ok (.aload_n 0, 1) := by decide +kernel
theorem dX8_command_6 : decode cX8_command 6 = .ok (.getfield 131, 3) := by decide +kernel
theorem dX8_command_9 : decode cX8_command 9 = .ok (.ifCond .eq 7, 3) := by decide +kernel
theorem dX8_command_12 : decode cX8_command 12 = .ok (.iconst 0, 1) := by decide +kernel
theorem dX8_command_13 : decode cX8_command 13 = .ok (.goto 7, 3) := by decide +kernel
theorem dX8_command_16 : decode cX8_command 16 = .ok (.aload_n 0, 1) := by decide +kernel
theorem dX8_command_17 : decode cX8_command 17 = .ok (.getfield 134, 3) := by decide +kernel
theorem dX8_command_20 : decode cX8_command 20 = .ok (.istore 4, 2) := by decide +kernel
theorem dX8_command_22 : decode cX8_command 22 = .ok (.aload_n 0, 1) := by decide +kernel
theorem dX8_command_23 : decode cX8_command 23 = .ok (.getfield 149, 3) := by decide +kernel
theorem dX8_command_26 : decode cX8_command 26 = .ok (.bipush 38, 2) := by decide +kernel
theorem dX8_command_28 : decode cX8_command 28 = .ok (.if_icmp .ne 22, 3) := by decide +kernel
theorem dX8_command_31 : decode cX8_command 31 = .ok (.aload_n 0, 1) := by decide +kernel
theorem dX8_command_32 : decode cX8_command 32 = .ok (.getfield 152, 3) := by decide +kernel
theorem dX8_command_35 : decode cX8_command 35 = .ok (.bipush 112, 2) := by decide +kernel
theorem dX8_command_37 : decode cX8_command 37 = .ok (.if_icmp .ne 13, 3) := by decide +kernel
theorem dX8_command_40 : decode cX8_command 40 = .ok (.iload_n 1, 1) := by decide +kernel
theorem dX8_command_41 : decode cX8_command 41 = .ok (.bipush 88, 2) := by decide +kernel
theorem dX8_command_43 : decode cX8_command 43 = .ok (.if_icmp .ne 7, 3) := by decide +kernel
theorem dX8_command_46 : decode cX8_command 46 = .ok (.iconst 1, 1) := by decide +kernel
theorem dX8_command_47 : decode cX8_command 47 = .ok (.goto 4, 3) := by decide +kernel
theorem dX8_command_50 : decode cX8_command 50 = .ok (.iconst 0, 1) := by decide +kernel
theorem dX8_command_51 : decode cX8_command 51 = .ok (.istore 5, 2) := by decide +kernel
theorem dX8_command_53 : decode cX8_command 53 = .ok (.aload_n 0, 1) := by decide +kernel
theorem dX8_command_54 : decode cX8_command 54 = .ok (.iload_n 2, 1) := by decide +kernel
theorem dX8_command_55 : decode cX8_command 55 = .ok (.putfield 162, 3) := by decide +kernel
theorem dX8_command_58 : decode cX8_command 58 = .ok (.aload_n 0, 1) := by decide +kernel
theorem dX8_command_59 : decode cX8_command 59 = .ok (.iload_n 1, 1) := by decide +kernel
theorem dX8_command_60 : decode cX8_command 60 = .ok (.bipush 87, 2) := by decide +kernel
theorem dX8_command_62 : decode cX8_command 62 = .ok (.if_icmp .eq 8, 3) := by decide +kernel
theorem dX8_command_65 : decode cX8_command 65 = .ok (.iload 5, 2) := by decide +kernel
theorem dX8_command_67 : decode cX8_command 67 = .ok (.ifCond .eq 8, 3) := by decide +kernel
theorem dX8_command_70 : decode cX8_command 70 = .ok (.iload 4, 2) := by decide +kernel
theorem dX8_command_72 : decode cX8_command 72 = .ok (.goto 4, 3) := by decide +kernel
theorem dX8_command_75 : decode cX8_command 75 = .ok (.iconst 0, 1) := by decide +kernel
theorem dX8_command_76 : decode cX8_command 76 = .ok (.putfield 165, 3) := by decide +kernel
theorem dX8_command_79 : decode cX8_command 79 = .ok (.aload_n 0, 1) := by decide +kernel
theorem dX8_command_80 : decode cX8_command 80 = .ok (.iload 5, 2) := by decide +kernel
theorem dX8_command_82 : decode cX8_command 82 = .ok (.ifCond .eq 7, 3) := by decide +kernel
theorem dX8_command_85 : decode cX8_command 85 = .ok (.iconst 1, 1) := by decide +kernel
theorem dX8_command_86 : decode cX8_command 86 = .ok (.goto 4, 3) := by decide +kernel
theorem dX8_command_89 : decode cX8_command 89 = .ok (.iconst 0, 1) := by decide +kernel
theorem dX8_command_90 : decode cX8_command 90 = .ok (.putfield 168, 3) := by decide +kernel
theorem dX8_command_93 : decode cX8_command 93 = .ok (.iload 5, 2) := by decide +kernel
theorem dX8_command_95 : decode cX8_command 95 = .ok (.ifCond .ne 20, 3) := by decide +kernel
theorem dX8_command_98 : decode cX8_command 98 = .ok (.aload_n 0, 1) := by decide +kernel
theorem dX8_command_99 : decode cX8_command 99 = .ok (.iload_n 1, 1) := by decide +kernel
theorem dX8_command_100 : decode cX8_command 100 = .ok (.iload_n 3, 1) := by decide +kernel
theorem dX8_command_101 : decode cX8_command 101 = .ok (.iload 4, 2) := by decide +kernel
theorem dX8_command_103 : decode cX8_command 103 = .ok (.invokevirtual 171, 3) := by decide +kernel
theorem dX8_command_106 : decode cX8_command 106 = .ok (.ifCond .ne 9, 3) := by decide +kernel
theorem dX8_command_109 : decode cX8_command 109 = .ok (.aload_n 0, 1) := by decide +kernel
theorem dX8_command_110 : decode cX8_command 110 = .ok (.iload_n 1, 1) := by decide +kernel
theorem dX8_command_111 : decode cX8_command 111 = .ok (.iload_n 3, 1) := by decide +kernel
theorem dX8_command_112 : decode cX8_command 112 = .ok (.invokevirtual 175, 3) := by decide +kernel
theorem dX8_command_115 : decode cX8_command 115 = .ok (.aload_n 0, 1) := by decide +kernel
theorem dX8_command_116 : decode cX8_command 116 = .ok (.invokevirtual 179, 3) := by decide +kernel
theorem dX8_command_119 : decode cX8_command 119 = .ok (.aload_n 0, 1) := by decide +kernel
theorem dX8_command_120 : decode cX8_command 120 = .ok (.aload_n 0, 1) := by decide +kernel
theorem dX8_command_121 : decode cX8_command 121 = .ok (.getfield 165, 3) := by decide +kernel
theorem dX8_command_124 : decode cX8_command 124 = .ok (.ifCond .le 7, 3) := by decide +kernel
theorem dX8_command_127 : decode cX8_command 127 = .ok (.iconst 4, 1) := by decide +kernel
theorem dX8_command_128 : decode cX8_command 128 = .ok (.goto 12, 3) := by decide +kernel
theorem dX8_command_131 : decode cX8_command 131 = .ok (.iload_n 2, 1) := by decide +kernel
theorem dX8_command_132 : decode cX8_command 132 = .ok (.ifCond .eq 7, 3) := by decide +kernel
theorem dX8_command_135 : decode cX8_command 135 = .ok (.iconst 0, 1) := by decide +kernel
theorem dX8_command_136 : decode cX8_command 136 = .ok (.goto 4, 3) := by decide +kernel
theorem dX8_command_139 : decode cX8_command 139 = .ok (.iconst 3, 1) := by decide +kernel
theorem dX8_command_140 : decode cX8_command 140 = .ok (.putfield 143, 3) := by decide +kernel
theorem dX8_command_143 : decode cX8_command 143 = .ok (.return_, 1) := by decide +kernel
theorem dX8_handOn_0 : decode cX8_handOn 0 = .ok (.aload_n 0, 1) := by decide +kernel
theorem dX8_handOn_1 : decode cX8_handOn 1 = .ok (.getfield 182, 3) := by decide +kernel
theorem dX8_handOn_4 : decode cX8_handOn 4 = .ok (.bipush 16, 2) := by decide +kernel
theorem dX8_handOn_6 : decode cX8_handOn 6 = .ok (.if_icmp .ne 4, 3) := by decide +kernel
theorem dX8_handOn_9 : decode cX8_handOn 9 = .ok (.return_, 1) := by decide +kernel
theorem dX8_handOn_10 : decode cX8_handOn 10 = .ok (.bipush 7, 2) := by decide +kernel
theorem dX8_handOn_12 : decode cX8_handOn 12 = .ok (.aload_n 0, 1) := by decide +kernel
theorem dX8_handOn_13 : decode cX8_handOn 13 = .ok (.getfield 182, 3) := by decide +kernel
theorem dX8_handOn_16 : decode cX8_handOn 16 = .ok (.imul, 1) := by decide +kernel
theorem dX8_handOn_17 : decode cX8_handOn 17 = .ok (.istore_n 3, 1) := by decide +kernel
theorem dX8_handOn_18 : decode cX8_handOn 18 = .ok (.aload_n 0, 1) := by decide +kernel
theorem dX8_handOn_19 : decode cX8_handOn 19 = .ok (.getfield 29, 3) := by decide +kernel
theorem dX8_handOn_22 : decode cX8_handOn 22 = .ok (.iload_n 3, 1) := by decide +kernel
theorem dX8_handOn_23 : decode cX8_handOn 23 = .ok (.aload_n 0, 1) := by decide +kernel
theorem dX8_handOn_24 : decode cX8_handOn 24 = .ok (.getfield 149, 3) := by decide +kernel
theorem dX8_handOn_27 : decode cX8_handOn 27 = .ok (.iastore, 1) := by decide +kernel
theorem dX8_handOn_28 : decode cX8_handOn 28 = .ok (.aload_n 0, 1) := by decide +kernel
theorem dX8_handOn_29 : decode cX8_handOn 29 = .ok (.getfield 29, 3) := by decide +kernel
theorem dX8_handOn_32 : decode cX8_handOn 32 = .ok (.iload_n 3, 1) := by decide +kernel
theorem dX8_handOn_33 : decode cX8_handOn 33 = .ok (.iconst 1, 1) := by decide +kernel
theorem dX8_handOn_34 : decode cX8_handOn 34 = .ok (.iadd, 1) := by decide +kernel
theorem dX8_handOn_35 : decode cX8_handOn 35 = .ok (.aload_n 0, 1) := by decide +kernel
theorem dX8_handOn_36 : decode cX8_handOn 36 = .ok (.getfield 152, 3) := by decide +kernel
theorem dX8_handOn_39 : decode cX8_handOn 39 = .ok (.iastore, 1) := by decide +kernel
theorem dX8_handOn_40 : decode cX8_handOn 40 = .ok (.aload_n 0, 1) := by decide +kernel
theorem dX8_handOn_41 : decode cX8_handOn 41 = .ok (.getfield 29, 3) := by decide +kernel
theorem dX8_handOn_44 : decode cX8_handOn 44 = .ok (.iload_n 3, 1) := by decide +kernel
theorem dX8_handOn_45 : decode cX8_handOn 45 = .ok (.iconst 2, 1) := by decide +kernel
theorem dX8_handOn_46 : decode cX8_handOn 46 = .ok (.iadd, 1) := by decide +kernel
theorem dX8_handOn_47 : decode cX8_handOn 47 = .ok (.iload_n 2, 1) := by decide +kernel
theorem dX8_handOn_48 : decode cX8_handOn 48 = .ok (.iastore, 1) := by decide +kernel
theorem dX8_handOn_49 : decode cX8_handOn 49 = .ok (.aload_n 0, 1) := by decide +kernel
theorem dX8_handOn_50 : decode cX8_handOn 50 = .ok (.getfield 29, 3) := by decide +kernel
theorem dX8_handOn_53 : decode cX8_handOn 53 = .ok (.iload_n 3, 1) := by decide +kernel
theorem dX8_handOn_54 : decode cX8_handOn 54 = .ok (.iconst 3, 1) := by decide +kernel
theorem dX8_handOn_55 : decode cX8_handOn 55 = .ok (.iadd, 1) := by decide +kernel
theorem dX8_handOn_56 : decode cX8_handOn 56 = .ok (.iload_n 1, 1) := by decide +kernel
theorem dX8_handOn_57 : decode cX8_handOn 57 = .ok (.iastore, 1) := by decide +kernel
theorem dX8_handOn_58 : decode cX8_handOn 58 = .ok (.aload_n 0, 1) := by decide +kernel
theorem dX8_handOn_59 : decode cX8_handOn 59 = .ok (.getfield 29, 3) := by decide +kernel
theorem dX8_handOn_62 : decode cX8_handOn 62 = .ok (.iload_n 3, 1) := by decide +kernel
theorem dX8_handOn_63 : decode cX8_handOn 63 = .ok (.iconst 4, 1) := by decide +kernel
theorem dX8_handOn_64 : decode cX8_handOn 64 = .ok (.iadd, 1) := by decide +kernel
theorem dX8_handOn_65 : decode cX8_handOn 65 = .ok (.aload_n 0, 1) := by decide +kernel
theorem dX8_handOn_66 : decode cX8_handOn 66 = .ok (.getfield 128, 3) := by decide +kernel
theorem dX8_handOn_69 : decode cX8_handOn 69 = .ok (.ifCond .eq 7, 3) := by decide +kernel
theorem dX8_handOn_72 : decode cX8_handOn 72 = .ok (.iconst 1, 1) := by decide +kernel
theorem dX8_handOn_73 : decode cX8_handOn 73 = .ok (.goto 4, 3) := by decide +kernel
theorem dX8_handOn_76 : decode cX8_handOn 76 = .ok (.iconst 0, 1) := by decide +kernel
theorem dX8_handOn_77 : decode cX8_handOn 77 = .ok (.iastore, 1) := by decide +kernel
theorem dX8_handOn_78 : decode cX8_handOn 78 = .ok (.aload_n 0, 1) := by decide +kernel
theorem dX8_handOn_79 : decode cX8_handOn 79 = .ok (.getfield 29, 3) := by decide +kernel
theorem dX8_handOn_82 : decode cX8_handOn 82 = .ok (.iload_n 3, 1) := by decide +kernel
theorem dX8_handOn_83 : decode cX8_handOn 83 = .ok (.iconst 5, 1) := by decide +kernel
theorem dX8_handOn_84 : decode cX8_handOn 84 = .ok (.iadd, 1) := by decide +kernel
theorem dX8_handOn_85 : decode cX8_handOn 85 = .ok (.iconst 0, 1) := by decide +kernel
theorem dX8_handOn_86 : decode cX8_handOn 86 = .ok (.iastore, 1) := by decide +kernel
theorem dX8_handOn_87 : decode cX8_handOn 87 = .ok (.aload_n 0, 1) := by decide +kernel
theorem dX8_handOn_88 : decode cX8_handOn 88 = .ok (.getfield 29, 3) := by decide +kernel
theorem dX8_handOn_91 : decode cX8_handOn 91 = .ok (.iload_n 3, 1) := by decide +kernel
theorem dX8_handOn_92 : decode cX8_handOn 92 = .ok (.bipush 6, 2) := by decide +kernel
theorem dX8_handOn_94 : decode cX8_handOn 94 = .ok (.iadd, 1) := by decide +kernel
theorem dX8_handOn_95 : decode cX8_handOn 95 = .ok (.aload_n 0, 1) := by decide +kernel
theorem dX8_handOn_96 : decode cX8_handOn 96 = .ok (.getfield 165, 3) := by decide +kernel
theorem dX8_handOn_99 : decode cX8_handOn 99 = .ok (.iastore, 1) := by decide +kernel
theorem dX8_handOn_100 : decode cX8_handOn 100 = .ok (.aload_n 0, 1) := by decide +kernel
theorem dX8_handOn_101 : decode cX8_handOn 101 = .ok (.dup, 1) := by decide +kernel
theorem dX8_handOn_102 : decode cX8_handOn 102 = .ok (.getfield 182, 3) := by decide +kernel
theorem dX8_handOn_105 : decode cX8_handOn 105 = .ok (.iconst 1, 1) := by decide +kernel
theorem dX8_handOn_106 : decode cX8_handOn 106 = .ok (.iadd, 1) := by decide +kernel
theorem dX8_handOn_107 : decode cX8_handOn 107 = .ok (.putfield 182, 3) := by decide +kernel
theorem dX8_handOn_110 : decode cX8_handOn 110 = .ok (.aload_n 0, 1) := by decide +kernel
theorem dX8_handOn_111 : decode cX8_handOn 111 = .ok (.iconst 2, 1) := by decide +kernel
theorem dX8_handOn_112 : decode cX8_handOn 112 = .ok (.putfield 168, 3) := by decide +kernel
theorem dX8_handOn_115 : decode cX8_handOn 115 = .ok (.return_, 1) := by decide +kernel
theorem dX8_datum_0 : decode cX8_datum 0 = .ok (.aload_n 0, 1) := by decide +kernel
theorem dX8_datum_1 : decode cX8_datum 1 = .ok (.dup, 1) := by decide +kernel
theorem dX8_datum_2 : decode cX8_datum 2 = .ok (.getfield 165, 3) := by decide +kernel
theorem dX8_datum_5 : decode cX8_datum 5 = .ok (.iconst 1, 1) := by decide +kernel
theorem dX8_datum_6 : decode cX8_datum 6 = .ok (.isub, 1) := by decide +kernel
theorem dX8_datum_7 : decode cX8_datum 7 = .ok (.putfield 165, 3) := by decide +kernel
theorem dX8_datum_10 : decode cX8_datum 10 = .ok (.aload_n 0, 1) := by decide +kernel
theorem dX8_datum_11 : decode cX8_datum 11 = .ok (.getfield 168, 3) := by decide +kernel
theorem dX8_datum_14 : decode cX8_datum 14 = .ok (.iconst 1, 1) := by decide +kernel
theorem dX8_datum_15 : decode cX8_datum 15 = .ok (.if_icmp .ne 11, 3) := by decide +kernel
theorem dX8_datum_18 : decode cX8_datum 18 = .ok (.aload_n 0, 1) := by decide +kernel
theorem dX8_datum_19 : decode cX8_datum 19 = .ok (.iload_n 1, 1) := by decide +kernel
theorem dX8_datum_20 : decode cX8_datum 20 = .ok (.invokevirtual 185, 3) := by decide +kernel
theorem dX8_datum_23 : decode cX8_datum 23 = .ok (.goto 78, 3) := by decide +kernel
theorem dX8_datum_26 : decode cX8_datum 26 = .ok (.aload_n 0, 1) := by decide +kernel
theorem dX8_datum_27 : decode cX8_datum 27 = .ok (.getfield 168, 3) := by decide +kernel
theorem dX8_datum_30 : decode cX8_datum 30 = .ok (.iconst 2, 1) := by decide +kernel
theorem dX8_datum_31 : decode cX8_datum 31 = .ok (.if_icmp .ne 70, 3) := by decide +kernel
theorem dX8_datum_34 : decode cX8_datum 34 = .ok (.bipush 7, 2) := by decide +kernel
theorem dX8_datum_36 : decode cX8_datum 36 = .ok (.aload_n 0, 1) := by decide +kernel
theorem dX8_datum_37 : decode cX8_datum 37 = .ok (.getfield 182, 3) := by decide +kernel
theorem dX8_datum_40 : decode cX8_datum 40 = .ok (.imul, 1) := by decide +kernel
theorem dX8_datum_41 : decode cX8_datum 41 = .ok (.bipush 7, 2) := by decide +kernel
theorem dX8_datum_43 : decode cX8_datum 43 = .ok (.isub, 1) := by decide +kernel
theorem dX8_datum_44 : decode cX8_datum 44 = .ok (.istore_n 2, 1) := by decide +kernel
theorem dX8_datum_45 : decode cX8_datum 45 = .ok (.aload_n 0, 1) := by decide +kernel
theorem dX8_datum_46 : decode cX8_datum 46 = .ok (.getfield 29, 3) := by decide +kernel
theorem dX8_datum_49 : decode cX8_datum 49 = .ok (.iload_n 2, 1) := by decide +kernel
theorem dX8_datum_50 : decode cX8_datum 50 = .ok (.bipush 6, 2) := by decide +kernel
theorem dX8_datum_52 : decode cX8_datum 52 = .ok (.iadd, 1) := by decide +kernel
theorem dX8_datum_53 : decode cX8_datum 53 = .ok (.dup2, 1) := by decide +kernel
theorem dX8_datum_54 : decode cX8_datum 54 = .ok (.iaload, 1) := by decide +kernel
theorem dX8_datum_55 : decode cX8_datum 55 = .ok (.iconst 1, 1) := by decide +kernel
theorem dX8_datum_56 : decode cX8_datum 56 = .ok (.isub, 1) := by decide +kernel
theorem dX8_datum_57 : decode cX8_datum 57 = .ok (.iastore, 1) := by decide +kernel
theorem dX8_datum_58 : decode cX8_datum 58 = .ok (.aload_n 0, 1) := by decide +kernel
theorem dX8_datum_59 : decode cX8_datum 59 = .ok (.getfield 188, 3) := by decide +kernel
theorem dX8_datum_62 : decode cX8_datum 62 = .ok (.sipush 4096, 3) := by decide +kernel
theorem dX8_datum_65 : decode cX8_datum 65 = .ok (.if_icmp .ge 36, 3) := by decide +kernel
theorem dX8_datum_68 : decode cX8_datum 68 = .ok (.aload_n 0, 1) := by decide +kernel
theorem dX8_datum_69 : decode cX8_datum 69 = .ok (.getfield 32, 3) := by decide +kernel
theorem dX8_datum_72 : decode cX8_datum 72 = .ok (.aload_n 0, 1) := by decide +kernel
theorem dX8_datum_73 : decode cX8_datum 73 = .ok (.getfield 188, 3) := by decide +kernel
theorem dX8_datum_76 : decode cX8_datum 76 = .ok (.iload_n 1, 1) := by decide +kernel
theorem dX8_datum_77 : decode cX8_datum 77 = .ok (.i2b, 1) := by decide +kernel
theorem dX8_datum_78 : decode cX8_datum 78 = .ok (.bastore, 1) := by decide +kernel
theorem dX8_datum_79 : decode cX8_datum 79 = .ok (.aload_n 0, 1) := by decide +kernel
theorem dX8_datum_80 : decode cX8_datum 80 = .ok (.dup, 1) := by decide +kernel
theorem dX8_datum_81 : decode cX8_datum 81 = .ok (.getfield 188, 3) := by decide +kernel
theorem dX8_datum_84 : decode cX8_datum 84 = .ok (.iconst 1, 1) := by decide +kernel
theorem dX8_datum_85 : decode cX8_datum 85 = .ok (.iadd, 1) := by decide +kernel
theorem dX8_datum_86 : decode cX8_datum 86 = .ok (.putfield 188, 3) := by decide +kernel
theorem dX8_datum_89 : decode cX8_datum 89 = .ok (.aload_n 0, 1) := by decide +kernel
theorem dX8_datum_90 : decode cX8_datum 90 = .ok (.getfield 29, 3) := by decide +kernel
theorem dX8_datum_93 : decode cX8_datum 93 = .ok (.iload_n 2, 1) := by decide +kernel
theorem dX8_datum_94 : decode cX8_datum 94 = .ok (.iconst 5, 1) := by decide +kernel
theorem dX8_datum_95 : decode cX8_datum 95 = .ok (.iadd, 1) := by decide +kernel
theorem dX8_datum_96 : decode cX8_datum 96 = .ok (.dup2, 1) := by decide +kernel
theorem dX8_datum_97 : decode cX8_datum 97 = .ok (.iaload, 1) := by decide +kernel
theorem dX8_datum_98 : decode cX8_datum 98 = .ok (.iconst 1, 1) := by decide +kernel
theorem dX8_datum_99 : decode cX8_datum 99 = .ok (.iadd, 1) := by decide +kernel
theorem dX8_datum_100 : decode cX8_datum 100 = .ok (.iastore, 1) := by decide +kernel
theorem dX8_datum_101 : decode cX8_datum 101 = .ok (.aload_n 0, 1) := by decide +kernel
theorem dX8_datum_102 : decode cX8_datum 102 = .ok (.aload_n 0, 1) := by decide +kernel
theorem dX8_datum_103 : decode cX8_datum 103 = .ok (.getfield 165, 3) := by decide +kernel
theorem dX8_datum_106 : decode cX8_datum 106 = .ok (.ifCond .le 7, 3) := by decide +kernel
theorem dX8_datum_109 : decode cX8_datum 109 = .ok (.iconst 4, 1) := by decide +kernel
theorem dX8_datum_110 : decode cX8_datum 110 = .ok (.goto 15, 3) := by decide +kernel
theorem dX8_datum_113 : decode cX8_datum 113 = .ok (.aload_n 0, 1) := by decide +kernel
theorem dX8_datum_114 : decode cX8_datum 114 = .ok (.getfield 162, 3) := by decide +kernel
theorem dX8_datum_117 : decode cX8_datum 117 = .ok (.ifCond .eq 7, 3) := by decide +kernel
theorem dX8_datum_120 : decode cX8_datum 120 = .ok (.iconst 0, 1) := by decide +kernel
theorem dX8_datum_121 : decode cX8_datum 121 = .ok (.goto 4, 3) := by decide +kernel
theorem dX8_datum_124 : decode cX8_datum 124 = .ok (.iconst 3, 1) := by decide +kernel
theorem dX8_datum_125 : decode cX8_datum 125 = .ok (.putfield 143, 3) := by decide +kernel
theorem dX8_datum_128 : decode cX8_datum 128 = .ok (.return_, 1) := by decide +kernel
theorem dX8_comes_0 : decode cX8_comes 0 = .ok (.aload_n 0, 1) := by decide +kernel
theorem dX8_comes_1 : decode cX8_comes 1 = .ok (.dup, 1) := by decide +kernel
theorem dX8_comes_2 : decode cX8_comes 2 = .ok (.getfield 191, 3) := by decide +kernel
theorem dX8_comes_5 : decode cX8_comes 5 = .ok (.iconst 1, 1) := by decide +kernel
theorem dX8_comes_6 : decode cX8_comes 6 = .ok (.iadd, 1) := by decide +kernel
theorem dX8_comes_7 : decode cX8_comes 7 = .ok (.putfield 191, 3) := by decide +kernel
theorem dX8_comes_10 : decode cX8_comes 10 = .ok (.aload_n 0, 1) := by decide +kernel
theorem dX8_comes_11 : decode cX8_comes 11 = .ok (.getfield 143, 3) := by decide +kernel
theorem dX8_comes_14 : decode cX8_comes 14 = .ok (.iconst 4, 1) := by decide +kernel
theorem dX8_comes_15 : decode cX8_comes 15 = .ok (.if_icmp .ne 11, 3) := by decide +kernel
theorem dX8_comes_18 : decode cX8_comes 18 = .ok (.aload_n 0, 1) := by decide +kernel
theorem dX8_comes_19 : decode cX8_comes 19 = .ok (.iload_n 1, 1) := by decide +kernel
theorem dX8_comes_20 : decode cX8_comes 20 = .ok (.invokevirtual 194, 3) := by decide +kernel
theorem dX8_comes_23 : decode cX8_comes 23 = .ok (.goto 122, 3) := by decide +kernel
theorem dX8_comes_26 : decode cX8_comes 26 = .ok (.aload_n 0, 1) := by decide +kernel
theorem dX8_comes_27 : decode cX8_comes 27 = .ok (.getfield 143, 3) := by decide +kernel
theorem dX8_comes_30 : decode cX8_comes 30 = .ok (.iconst 1, 1) := by decide +kernel
theorem dX8_comes_31 : decode cX8_comes 31 = .ok (.if_icmp .ne 11, 3) := by decide +kernel
theorem dX8_comes_34 : decode cX8_comes 34 = .ok (.aload_n 0, 1) := by decide +kernel
theorem dX8_comes_35 : decode cX8_comes 35 = .ok (.iload_n 1, 1) := by decide +kernel
theorem dX8_comes_36 : decode cX8_comes 36 = .ok (.invokevirtual 197, 3) := by decide +kernel
theorem dX8_comes_39 : decode cX8_comes 39 = .ok (.goto 106, 3) := by decide +kernel
theorem dX8_comes_42 : decode cX8_comes 42 = .ok (.aload_n 0, 1) := by decide +kernel
theorem dX8_comes_43 : decode cX8_comes 43 = .ok (.getfield 143, 3) := by decide +kernel
theorem dX8_comes_46 : decode cX8_comes 46 = .ok (.iconst 2, 1) := by decide +kernel
theorem dX8_comes_47 : decode cX8_comes 47 = .ok (.if_icmp .ne 32, 3) := by decide +kernel
theorem dX8_comes_50 : decode cX8_comes 50 = .ok (.iload_n 1, 1) := by decide +kernel
theorem dX8_comes_51 : decode cX8_comes 51 = .ok (.bipush 96, 2) := by decide +kernel
theorem dX8_comes_53 : decode cX8_comes 53 = .ok (.if_icmp .lt 26, 3) := by decide +kernel
theorem dX8_comes_56 : decode cX8_comes 56 = .ok (.iload_n 1, 1) := by decide +kernel
theorem dX8_comes_57 : decode cX8_comes 57 = .ok (.bipush 126, 2) := by decide +kernel
theorem dX8_comes_59 : decode cX8_comes 59 = .ok (.if_icmp .gt 20, 3) := by decide +kernel
theorem dX8_comes_62 : decode cX8_comes 62 = .ok (.aload_n 0, 1) := by decide +kernel
theorem dX8_comes_63 : decode cX8_comes 63 = .ok (.iload_n 1, 1) := by decide +kernel
theorem dX8_comes_64 : decode cX8_comes 64 = .ok (.putfield 152, 3) := by decide +kernel
theorem dX8_comes_67 : decode cX8_comes 67 = .ok (.aload_n 0, 1) := by decide +kernel
theorem dX8_comes_68 : decode cX8_comes 68 = .ok (.iconst 3, 1) := by decide +kernel
theorem dX8_comes_69 : decode cX8_comes 69 = .ok (.putfield 143, 3) := by decide +kernel
theorem dX8_comes_72 : decode cX8_comes 72 = .ok (.aload_n 0, 1) := by decide +kernel
theorem dX8_comes_73 : decode cX8_comes 73 = .ok (.invokevirtual 179, 3) := by decide +kernel
theorem dX8_comes_76 : decode cX8_comes 76 = .ok (.goto 69, 3) := by decide +kernel
theorem dX8_comes_79 : decode cX8_comes 79 = .ok (.aload_n 0, 1) := by decide +kernel
theorem dX8_comes_80 : decode cX8_comes 80 = .ok (.getfield 143, 3) := by decide +kernel
theorem dX8_comes_83 : decode cX8_comes 83 = .ok (.iconst 1, 1) := by decide +kernel
theorem dX8_comes_84 : decode cX8_comes 84 = .ok (.if_icmp .le 28, 3) := by decide +kernel
theorem dX8_comes_87 : decode cX8_comes 87 = .ok (.aload_n 0, 1) := by decide +kernel
theorem dX8_comes_88 : decode cX8_comes 88 = .ok (.getfield 143, 3) := by decide +kernel
theorem dX8_comes_91 : decode cX8_comes 91 = .ok (.iconst 2, 1) := by decide +kernel
theorem dX8_comes_92 : decode cX8_comes 92 = .ok (.if_icmp .ne 12, 3) := by decide +kernel
theorem dX8_comes_95 : decode cX8_comes 95 = .ok (.aload_n 0, 1) := by decide +kernel
theorem dX8_comes_96 : decode cX8_comes 96 = .ok (.iconst 3, 1) := by decide +kernel
theorem dX8_comes_97 : decode cX8_comes 97 = .ok (.putfield 143, 3) := by decide +kernel
theorem dX8_comes_100 : decode cX8_comes 100 = .ok (.aload_n 0, 1) := by decide +kernel
theorem dX8_comes_101 : decode cX8_comes 101 = .ok (.invokevirtual 179, 3) := by decide +kernel
theorem dX8_comes_104 : decode cX8_comes 104 = .ok (.aload_n 0, 1) := by decide +kernel
theorem dX8_comes_105 : decode cX8_comes 105 = .ok (.iload_n 1, 1) := by decide +kernel
theorem dX8_comes_106 : decode cX8_comes 106 = .ok (.invokevirtual 200, 3) := by decide +kernel
theorem dX8_comes_109 : decode cX8_comes 109 = .ok (.goto 36, 3) := by decide +kernel
theorem dX8_comes_112 : decode cX8_comes 112 = .ok (.iload_n 1, 1) := by decide +kernel
theorem dX8_comes_113 : decode cX8_comes 113 = .ok (.bipush 27, 2) := by decide +kernel
theorem dX8_comes_115 : decode cX8_comes 115 = .ok (.if_icmp .ne 11, 3) := by decide +kernel
theorem dX8_comes_118 : decode cX8_comes 118 = .ok (.aload_n 0, 1) := by decide +kernel
theorem dX8_comes_119 : decode cX8_comes 119 = .ok (.iconst 1, 1) := by decide +kernel
theorem dX8_comes_120 : decode cX8_comes 120 = .ok (.putfield 143, 3) := by decide +kernel
theorem dX8_comes_123 : decode cX8_comes 123 = .ok (.goto 22, 3) := by decide +kernel
theorem dX8_comes_126 : decode cX8_comes 126 = .ok (.iload_n 1, 1) := by decide +kernel
theorem dX8_comes_127 : decode cX8_comes 127 = .ok (.bipush 32, 2) := by decide +kernel
theorem dX8_comes_129 : decode cX8_comes 129 = .ok (.if_icmp .lt 11, 3) := by decide +kernel
theorem dX8_comes_132 : decode cX8_comes 132 = .ok (.aload_n 0, 1) := by decide +kernel
theorem dX8_comes_133 : decode cX8_comes 133 = .ok (.iload_n 1, 1) := by decide +kernel
theorem dX8_comes_134 : decode cX8_comes 134 = .ok (.invokevirtual 185, 3) := by decide +kernel
theorem dX8_comes_137 : decode cX8_comes 137 = .ok (.goto 8, 3) := by decide +kernel
theorem dX8_comes_140 : decode cX8_comes 140 = .ok (.aload_n 0, 1) := by decide +kernel
theorem dX8_comes_141 : decode cX8_comes 141 = .ok (.iload_n 1, 1) := by decide +kernel
theorem dX8_comes_142 : decode cX8_comes 142 = .ok (.invokevirtual 203, 3) := by decide +kernel
theorem dX8_comes_145 : decode cX8_comes 145 = .ok (.return_, 1) := by decide +kernel
theorem dX8_feed_0 : decode cX8_feed 0 = .ok (.aload_n 0, 1) := by decide +kernel
theorem dX8_feed_1 : decode cX8_feed 1 = .ok (.iconst 0, 1) := by decide +kernel
theorem dX8_feed_2 : decode cX8_feed 2 = .ok (.putfield 39, 3) := by decide +kernel
theorem dX8_feed_5 : decode cX8_feed 5 = .ok (.iload_n 3, 1) := by decide +kernel
theorem dX8_feed_6 : decode cX8_feed 6 = .ok (.iconst 1, 1) := by decide +kernel
theorem dX8_feed_7 : decode cX8_feed 7 = .ok (.if_icmp .lt 9, 3) := by decide +kernel
theorem dX8_feed_10 : decode cX8_feed 10 = .ok (.iload_n 3, 1) := by decide +kernel
theorem dX8_feed_11 : decode cX8_feed 11 = .ok (.bipush 8, 2) := by decide +kernel
theorem dX8_feed_13 : decode cX8_feed 13 = .ok (.if_icmp .le 5, 3) := by decide +kernel
theorem dX8_feed_16 : decode cX8_feed 16 = .ok (.iconst 0, 1) := by decide +kernel
theorem dX8_feed_17 : decode cX8_feed 17 = .ok (.ireturn, 1) := by decide +kernel
theorem dX8_feed_18 : decode cX8_feed 18 = .ok (.iload_n 3, 1) := by decide +kernel
theorem dX8_feed_19 : decode cX8_feed 19 = .ok (.iconst 1, 1) := by decide +kernel
theorem dX8_feed_20 : decode cX8_feed 20 = .ok (.isub, 1) := by decide +kernel
theorem dX8_feed_21 : decode cX8_feed 21 = .ok (.istore 4, 2) := by decide +kernel
theorem dX8_feed_23 : decode cX8_feed 23 = .ok (.iload 4, 2) := by decide +kernel
theorem dX8_feed_25 : decode cX8_feed 25 = .ok (.ifCond .lt 25, 3) := by decide +kernel
theorem dX8_feed_28 : decode cX8_feed 28 = .ok (.aload_n 0, 1) := by decide +kernel
theorem dX8_feed_29 : decode cX8_feed 29 = .ok (.lload_n 1, 1) := by decide +kernel
theorem dX8_feed_30 : decode cX8_feed 30 = .ok (.bipush 8, 2) := by decide +kernel
theorem dX8_feed_32 : decode cX8_feed 32 = .ok (.iload 4, 2) := by decide +kernel
theorem dX8_feed_34 : decode cX8_feed 34 = .ok (.imul, 1) := by decide +kernel
theorem dX8_feed_35 : decode cX8_feed 35 = .ok (.lshr, 1) := by decide +kernel
theorem dX8_feed_36 : decode cX8_feed 36 = .ok (.ldc2_w 206, 3) := by decide +kernel
theorem dX8_feed_39 : decode cX8_feed 39 = .ok (.land, 1) := by decide +kernel
theorem dX8_feed_40 : decode cX8_feed 40 = .ok (.l2i, 1) := by decide +kernel
theorem dX8_feed_41 : decode cX8_feed 41 = .ok (.invokevirtual 208, 3) := by decide +kernel
theorem dX8_feed_44 : decode cX8_feed 44 = .ok (.iinc 4 (-1), 3) := by decide +kernel
theorem dX8_feed_47 : decode cX8_feed 47 = .ok (.goto (-24), 3) := by decide +kernel
theorem dX8_feed_50 : decode cX8_feed 50 = .ok (.iconst 1, 1) := by decide +kernel
theorem dX8_feed_51 : decode cX8_feed 51 = .ok (.ireturn, 1) := by decide +kernel
theorem dX8_is_0 : decode cX8_is 0 = .ok (.aload_n 0, 1) := by decide +kernel
theorem dX8_is_1 : decode cX8_is 1 = .ok (.getfield 149, 3) := by decide +kernel
theorem dX8_is_4 : decode cX8_is 4 = .ok (.iload_n 1, 1) := by decide +kernel
theorem dX8_is_5 : decode cX8_is 5 = .ok (.if_icmp .ne 21, 3) := by decide +kernel
theorem dX8_is_8 : decode cX8_is 8 = .ok (.aload_n 0, 1) := by decide +kernel
theorem dX8_is_9 : decode cX8_is 9 = .ok (.getfield 152, 3) := by decide +kernel
theorem dX8_is_12 : decode cX8_is 12 = .ok (.iload_n 2, 1) := by decide +kernel
theorem dX8_is_13 : decode cX8_is 13 = .ok (.if_icmp .ne 13, 3) := by decide +kernel
theorem dX8_is_16 : decode cX8_is 16 = .ok (.iload_n 3, 1) := by decide +kernel
theorem dX8_is_17 : decode cX8_is 17 = .ok (.iload 4, 2) := by decide +kernel
theorem dX8_is_19 : decode cX8_is 19 = .ok (.if_icmp .ne 7, 3) := by decide +kernel
theorem dX8_is_22 : decode cX8_is 22 = .ok (.iconst 1, 1) := by decide +kernel
theorem dX8_is_23 : decode cX8_is 23 = .ok (.goto 4, 3) := by decide +kernel
theorem dX8_is_26 : decode cX8_is 26 = .ok (.iconst 0, 1) := by decide +kernel
theorem dX8_is_27 : decode cX8_is 27 = .ok (.ireturn, 1) := by decide +kernel
theorem dX8_known_0 : decode cX8_known 0 = .ok (.iload_n 2, 1) := by decide +kernel
theorem dX8_known_1 : decode cX8_known 1 = .ok (.ifCond .ge 7, 3) := by decide +kernel
theorem dX8_known_4 : decode cX8_known 4 = .ok (.lconst 0, 1) := by decide +kernel
theorem dX8_known_5 : decode cX8_known 5 = .ok (.goto 5, 3) := by decide +kernel
theorem dX8_known_8 : decode cX8_known 8 = .ok (.iload_n 2, 1) := by decide +kernel
theorem dX8_known_9 : decode cX8_known 9 = .ok (.i2l, 1) := by decide +kernel
theorem dX8_known_10 : decode cX8_known 10 = .ok (.lstore 4, 2) := by decide +kernel
theorem dX8_known_12 : decode cX8_known 12 = .ok (.aload_n 0, 1) := by decide +kernel
theorem dX8_known_13 : decode cX8_known 13 = .ok (.getfield 149, 3) := by decide +kernel
theorem dX8_known_16 : decode cX8_known 16 = .ok (.bipush 38, 2) := by decide +kernel
theorem dX8_known_18 : decode cX8_known 18 = .ok (.if_icmp .ne 21, 3) := by decide +kernel
theorem dX8_known_21 : decode cX8_known 21 = .ok (.aload_n 0, 1) := by decide +kernel
theorem dX8_known_22 : decode cX8_known 22 = .ok (.getfield 152, 3) := by decide +kernel
theorem dX8_known_25 : decode cX8_known 25 = .ok (.bipush 108, 2) := by decide +kernel
theorem dX8_known_27 : decode cX8_known 27 = .ok (.if_icmp .ne 12, 3) := by decide +kernel
theorem dX8_known_30 : decode cX8_known 30 = .ok (.aload_n 0, 1) := by decide +kernel
theorem dX8_known_31 : decode cX8_known 31 = .ok (.iload_n 1, 1) := by decide +kernel
theorem dX8_known_32 : decode cX8_known 32 = .ok (.lload 4, 2) := by decide +kernel
theorem dX8_known_34 : decode cX8_known 34 = .ok (.iload_n 3, 1) := by decide +kernel
theorem dX8_known_35 : decode cX8_known 35 = .ok (.invokevirtual 211, 3) := by decide +kernel
theorem dX8_known_38 : decode cX8_known 38 = .ok (.ireturn, 1) := by decide +kernel
theorem dX8_known_39 : decode cX8_known 39 = .ok (.aload_n 0, 1) := by decide +kernel
theorem dX8_known_40 : decode cX8_known 40 = .ok (.bipush 38, 2) := by decide +kernel
theorem dX8_known_42 : decode cX8_known 42 = .ok (.bipush 107, 2) := by decide +kernel
theorem dX8_known_44 : decode cX8_known 44 = .ok (.bipush 72, 2) := by decide +kernel
theorem dX8_known_46 : decode cX8_known 46 = .ok (.iload_n 1, 1) := by decide +kernel
theorem dX8_known_47 : decode cX8_known 47 = .ok (.invokevirtual 215, 3) := by decide +kernel
theorem dX8_known_50 : decode cX8_known 50 = .ok (.ifCond .eq 24, 3) := by decide +kernel
theorem dX8_known_53 : decode cX8_known 53 = .ok (.aload_n 0, 1) := by decide +kernel
theorem dX8_known_54 : decode cX8_known 54 = .ok (.getfield 7, 3) := by decide +kernel
theorem dX8_known_57 : decode cX8_known 57 = .ok (.bipush 6, 2) := by decide +kernel
theorem dX8_known_59 : decode cX8_known 59 = .ok (.ldc2_w 219, 3) := by decide +kernel
theorem dX8_known_62 : decode cX8_known 62 = .ok (.lload 4, 2) := by decide +kernel
theorem dX8_known_64 : decode cX8_known 64 = .ok (.lmul, 1) := by decide +kernel
theorem dX8_known_65 : decode cX8_known 65 = .ok (.ldc2_w 221, 3) := by decide +kernel
theorem dX8_known_68 : decode cX8_known 68 = .ok (.ldiv, 1) := by decide +kernel
theorem dX8_known_69 : decode cX8_known 69 = .ok (.l2i, 1) := by decide +kernel
theorem dX8_known_70 : decode cX8_known 70 = .ok (.iastore, 1) := by decide +kernel
theorem dX8_known_71 : decode cX8_known 71 = .ok (.goto 308, 3) := by decide +kernel
theorem dX8_known_74 : decode cX8_known 74 = .ok (.aload_n 0, 1) := by decide +kernel
theorem dX8_known_75 : decode cX8_known 75 = .ok (.bipush 38, 2) := by decide +kernel
theorem dX8_known_77 : decode cX8_known 77 = .ok (.bipush 107, 2) := by decide +kernel
theorem dX8_known_79 : decode cX8_known 79 = .ok (.bipush 71, 2) := by decide +kernel
theorem dX8_known_81 : decode cX8_known 81 = .ok (.iload_n 1, 1) := by decide +kernel
theorem dX8_known_82 : decode cX8_known 82 = .ok (.invokevirtual 215, 3) := by decide +kernel
theorem dX8_known_85 : decode cX8_known 85 = .ok (.ifCond .eq 29, 3) := by decide +kernel
theorem dX8_known_88 : decode cX8_known 88 = .ok (.aload_n 0, 1) := by decide +kernel
theorem dX8_known_89 : decode cX8_known 89 = .ok (.getfield 7, 3) := by decide +kernel
theorem dX8_known_92 : decode cX8_known 92 = .ok (.bipush 10, 2) := by decide +kernel
theorem dX8_known_94 : decode cX8_known 94 = .ok (.iload_n 3, 1) := by decide +kernel
theorem dX8_known_95 : decode cX8_known 95 = .ok (.iconst 4, 1) := by decide +kernel
theorem dX8_known_96 : decode cX8_known 96 = .ok (.if_icmp .ge 7, 3) := by decide +kernel
theorem dX8_known_99 : decode cX8_known 99 = .ok (.iload_n 3, 1) := by decide +kernel
theorem dX8_known_100 : decode cX8_known 100 = .ok (.goto 10, 3) := by decide +kernel
theorem dX8_known_103 : decode cX8_known 103 = .ok (.aload_n 0, 1) := by decide +kernel
theorem dX8_known_104 : decode cX8_known 104 = .ok (.getfield 7, 3) := by decide +kernel
theorem dX8_known_107 : decode cX8_known 107 = .ok (.bipush 10, 2) := by decide +kernel
theorem dX8_known_109 : decode cX8_known 109 = .ok (.iaload, 1) := by decide +kernel
theorem dX8_known_110 : decode cX8_known 110 = .ok (.iastore, 1) := by decide +kernel
theorem dX8_known_111 : decode cX8_known 111 = .ok (.goto 268, 3) := by decide +kernel
theorem dX8_known_114 : decode cX8_known 114 = .ok (.aload_n 0, 1) := by decide +kernel
theorem dX8_known_115 : decode cX8_known 115 = .ok (.bipush 38, 2) := by decide +kernel
theorem dX8_known_117 : decode cX8_known 117 = .ok (.bipush 97, 2) := by decide +kernel
theorem dX8_known_119 : decode cX8_known 119 = .ok (.bipush 76, 2) := by decide +kernel
theorem dX8_known_121 : decode cX8_known 121 = .ok (.iload_n 1, 1) := by decide +kernel
theorem dX8_known_122 : decode cX8_known 122 = .ok (.invokevirtual 215, 3) := by decide +kernel
theorem dX8_known_125 : decode cX8_known 125 = .ok (.ifCond .eq 79, 3) := by decide +kernel
theorem dX8_known_128 : decode cX8_known 128 = .ok (.iload_n 3, 1) := by decide +kernel
theorem dX8_known_129 : decode cX8_known 129 = .ok (.i2l, 1) := by decide +kernel
theorem dX8_known_130 : decode cX8_known 130 = .ok (.aload_n 0, 1) := by decide +kernel
theorem dX8_known_131 : decode cX8_known 131 = .ok (.getfield 7, 3) := by decide +kernel
theorem dX8_known_134 : decode cX8_known 134 = .ok (.bipush 6, 2) := by decide +kernel
theorem dX8_known_136 : decode cX8_known 136 = .ok (.iaload, 1) := by decide +kernel
theorem dX8_known_137 : decode cX8_known 137 = .ok (.i2l, 1) := by decide +kernel
theorem dX8_known_138 : decode cX8_known 138 = .ok (.lmul, 1) := by decide +kernel
theorem dX8_known_139 : decode cX8_known 139 = .ok (.aload_n 0, 1) := by decide +kernel
theorem dX8_known_140 : decode cX8_known 140 = .ok (.getfield 7, 3) := by decide +kernel
theorem dX8_known_143 : decode cX8_known 143 = .ok (.iconst 3, 1) := by decide +kernel
theorem dX8_known_144 : decode cX8_known 144 = .ok (.iaload, 1) := by decide +kernel
theorem dX8_known_145 : decode cX8_known 145 = .ok (.i2l, 1) := by decide +kernel
theorem dX8_known_146 : decode cX8_known 146 = .ok (.lcmp, 1) := by decide +kernel
theorem dX8_known_147 : decode cX8_known 147 = .ok (.ifCond .ge 232, 3) := by decide +kernel
theorem dX8_known_150 : decode cX8_known 150 = .ok (.aload_n 0, 1) := by decide +kernel
theorem dX8_known_151 : decode cX8_known 151 = .ok (.getfield 7, 3) := by decide +kernel
theorem dX8_known_154 : decode cX8_known 154 = .ok (.iconst 2, 1) := by decide +kernel
theorem dX8_known_155 : decode cX8_known 155 = .ok (.iload_n 3, 1) := by decide +kernel
theorem dX8_known_156 : decode cX8_known 156 = .ok (.aload_n 0, 1) := by decide +kernel
theorem dX8_known_157 : decode cX8_known 157 = .ok (.getfield 7, 3) := by decide +kernel
theorem dX8_known_160 : decode cX8_known 160 = .ok (.bipush 6, 2) := by decide +kernel
theorem dX8_known_162 : decode cX8_known 162 = .ok (.iaload, 1) := by decide +kernel
theorem dX8_known_163 : decode cX8_known 163 = .ok (.imul, 1) := by decide +kernel
theorem dX8_known_164 : decode cX8_known 164 = .ok (.iastore, 1) := by decide +kernel
theorem dX8_known_165 : decode cX8_known 165 = .ok (.aload_n 0, 1) := by decide +kernel
theorem dX8_known_166 : decode cX8_known 166 = .ok (.getfield 7, 3) := by decide +kernel
theorem dX8_known_169 : decode cX8_known 169 = .ok (.iconst 0, 1) := by decide +kernel
theorem dX8_known_170 : decode cX8_known 170 = .ok (.aload_n 0, 1) := by decide +kernel
theorem dX8_known_171 : decode cX8_known 171 = .ok (.getfield 7, 3) := by decide +kernel
theorem dX8_known_174 : decode cX8_known 174 = .ok (.iconst 0, 1) := by decide +kernel
theorem dX8_known_175 : decode cX8_known 175 = .ok (.iaload, 1) := by decide +kernel
theorem dX8_known_176 : decode cX8_known 176 = .ok (.aload_n 0, 1) := by decide +kernel
theorem dX8_known_177 : decode cX8_known 177 = .ok (.getfield 7, 3) := by decide +kernel
theorem dX8_known_180 : decode cX8_known 180 = .ok (.iconst 2, 1) := by decide +kernel
theorem dX8_known_181 : decode cX8_known 181 = .ok (.iaload, 1) := by decide +kernel
theorem dX8_known_182 : decode cX8_known 182 = .ok (.if_icmp .ge 12, 3) := by decide +kernel
theorem dX8_known_185 : decode cX8_known 185 = .ok (.aload_n 0, 1) := by decide +kernel
theorem dX8_known_186 : decode cX8_known 186 = .ok (.getfield 7, 3) := by decide +kernel
theorem dX8_known_189 : decode cX8_known 189 = .ok (.iconst 2, 1) := by decide +kernel
theorem dX8_known_190 : decode cX8_known 190 = .ok (.iaload, 1) := by decide +kernel
theorem dX8_known_191 : decode cX8_known 191 = .ok (.goto 9, 3) := by decide +kernel
theorem dX8_known_194 : decode cX8_known 194 = .ok (.aload_n 0, 1) := by decide +kernel
theorem dX8_known_195 : decode cX8_known 195 = .ok (.getfield 7, 3) := by decide +kernel
theorem dX8_known_198 : decode cX8_known 198 = .ok (.iconst 0, 1) := by decide +kernel
theorem dX8_known_199 : decode cX8_known 199 = .ok (.iaload, 1) := by decide +kernel
theorem dX8_known_200 : decode cX8_known 200 = .ok (.iastore, 1) := by decide +kernel
theorem dX8_known_201 : decode cX8_known 201 = .ok (.goto 178, 3) := by decide +kernel
theorem dX8_known_204 : decode cX8_known 204 = .ok (.aload_n 0, 1) := by decide +kernel
theorem dX8_known_205 : decode cX8_known 205 = .ok (.bipush 38, 2) := by decide +kernel
theorem dX8_known_207 : decode cX8_known 207 = .ok (.bipush 97, 2) := by decide +kernel
theorem dX8_known_209 : decode cX8_known 209 = .ok (.bipush 77, 2) := by decide +kernel
theorem dX8_known_211 : decode cX8_known 211 = .ok (.iload_n 1, 1) := by decide +kernel
theorem dX8_known_212 : decode cX8_known 212 = .ok (.invokevirtual 215, 3) := by decide +kernel
theorem dX8_known_215 : decode cX8_known 215 = .ok (.ifCond .eq 85, 3) := by decide +kernel
theorem dX8_known_218 : decode cX8_known 218 = .ok (.iload_n 3, 1) := by decide +kernel
theorem dX8_known_219 : decode cX8_known 219 = .ok (.i2l, 1) := by decide +kernel
theorem dX8_known_220 : decode cX8_known 220 = .ok (.lconst 1, 1) := by decide +kernel
theorem dX8_known_221 : decode cX8_known 221 = .ok (.ladd, 1) := by decide +kernel
theorem dX8_known_222 : decode cX8_known 222 = .ok (.aload_n 0, 1) := by decide +kernel
theorem dX8_known_223 : decode cX8_known 223 = .ok (.getfield 7, 3) := by decide +kernel
theorem dX8_known_226 : decode cX8_known 226 = .ok (.bipush 6, 2) := by decide +kernel
theorem dX8_known_228 : decode cX8_known 228 = .ok (.iaload, 1) := by decide +kernel
theorem dX8_known_229 : decode cX8_known 229 = .ok (.i2l, 1) := by decide +kernel
theorem dX8_known_230 : decode cX8_known 230 = .ok (.lmul, 1) := by decide +kernel
theorem dX8_known_231 : decode cX8_known 231 = .ok (.lstore 6, 2) := by decide +kernel
theorem dX8_known_233 : decode cX8_known 233 = .ok (.lload 6, 2) := by decide +kernel
theorem dX8_known_235 : decode cX8_known 235 = .ok (.aload_n 0, 1) := by decide +kernel
theorem dX8_known_236 : decode cX8_known 236 = .ok (.getfield 7, 3) := by decide +kernel
theorem dX8_known_239 : decode cX8_known 239 = .ok (.iconst 2, 1) := by decide +kernel
theorem dX8_known_240 : decode cX8_known 240 = .ok (.iaload, 1) := by decide +kernel
theorem dX8_known_241 : decode cX8_known 241 = .ok (.i2l, 1) := by decide +kernel
theorem dX8_known_242 : decode cX8_known 242 = .ok (.lcmp, 1) := by decide +kernel
theorem dX8_known_243 : decode cX8_known 243 = .ok (.ifCond .le 54, 3) := by decide +kernel
theorem dX8_known_246 : decode cX8_known 246 = .ok (.aload_n 0, 1) := by decide +kernel
theorem dX8_known_247 : decode cX8_known 247 = .ok (.getfield 7, 3) := by decide +kernel
theorem dX8_known_250 : decode cX8_known 250 = .ok (.iconst 3, 1) := by decide +kernel
theorem dX8_known_251 : decode cX8_known 251 = .ok (.lload 6, 2) := by decide +kernel
theorem dX8_known_253 : decode cX8_known 253 = .ok (.aload_n 0, 1) := by decide +kernel
theorem dX8_known_254 : decode cX8_known 254 = .ok (.getfield 64, 3) := by decide +kernel
theorem dX8_known_257 : decode cX8_known 257 = .ok (.invokestatic 70, 3) := by decide +kernel
theorem dX8_known_260 : decode cX8_known 260 = .ok (.iastore, 1) := by decide +kernel
theorem dX8_known_261 : decode cX8_known 261 = .ok (.aload_n 0, 1) := by decide +kernel
theorem dX8_known_262 : decode cX8_known 262 = .ok (.getfield 7, 3) := by decide +kernel
theorem dX8_known_265 : decode cX8_known 265 = .ok (.iconst 0, 1) := by decide +kernel
theorem dX8_known_266 : decode cX8_known 266 = .ok (.aload_n 0, 1) := by decide +kernel
theorem dX8_known_267 : decode cX8_known 267 = .ok (.getfield 7, 3) := by decide +kernel
theorem dX8_known_270 : decode cX8_known 270 = .ok (.iconst 0, 1) := by decide +kernel
theorem dX8_known_271 : decode cX8_known 271 = .ok (.iaload, 1) := by decide +kernel
theorem dX8_known_272 : decode cX8_known 272 = .ok (.aload_n 0, 1) := by decide +kernel
theorem dX8_known_273 : decode cX8_known 273 = .ok (.getfield 7, 3) := by decide +kernel
theorem dX8_known_276 : decode cX8_known 276 = .ok (.iconst 3, 1) := by decide +kernel
theorem dX8_known_277 : decode cX8_known 277 = .ok (.iaload, 1) := by decide +kernel
theorem dX8_known_278 : decode cX8_known 278 = .ok (.if_icmp .le 12, 3) := by decide +kernel
theorem dX8_known_281 : decode cX8_known 281 = .ok (.aload_n 0, 1) := by decide +kernel
theorem dX8_known_282 : decode cX8_known 282 = .ok (.getfield 7, 3) := by decide +kernel
theorem dX8_known_285 : decode cX8_known 285 = .ok (.iconst 3, 1) := by decide +kernel
theorem dX8_known_286 : decode cX8_known 286 = .ok (.iaload, 1) := by decide +kernel
theorem dX8_known_287 : decode cX8_known 287 = .ok (.goto 9, 3) := by decide +kernel
theorem dX8_known_290 : decode cX8_known 290 = .ok (.aload_n 0, 1) := by decide +kernel
theorem dX8_known_291 : decode cX8_known 291 = .ok (.getfield 7, 3) := by decide +kernel
theorem dX8_known_294 : decode cX8_known 294 = .ok (.iconst 0, 1) := by decide +kernel
theorem dX8_known_295 : decode cX8_known 295 = .ok (.iaload, 1) := by decide +kernel
theorem dX8_known_296 : decode cX8_known 296 = .ok (.iastore, 1) := by decide +kernel
theorem dX8_known_297 : decode cX8_known 297 = .ok (.goto 82, 3) := by decide +kernel
theorem dX8_known_300 : decode cX8_known 300 = .ok (.aload_n 0, 1) := by decide +kernel
theorem dX8_known_301 : decode cX8_known 301 = .ok (.bipush 38, 2) := by decide +kernel
theorem dX8_known_303 : decode cX8_known 303 = .ok (.bipush 115, 2) := by decide +kernel
theorem dX8_known_305 : decode cX8_known 305 = .ok (.bipush 67, 2) := by decide +kernel
theorem dX8_known_307 : decode cX8_known 307 = .ok (.iload_n 1, 1) := by decide +kernel
theorem dX8_known_308 : decode cX8_known 308 = .ok (.invokevirtual 215, 3) := by decide +kernel
theorem dX8_known_311 : decode cX8_known 311 = .ok (.ifCond .eq 37, 3) := by decide +kernel
theorem dX8_known_314 : decode cX8_known 314 = .ok (.aload_n 0, 1) := by decide +kernel
theorem dX8_known_315 : decode cX8_known 315 = .ok (.getfield 7, 3) := by decide +kernel
theorem dX8_known_318 : decode cX8_known 318 = .ok (.bipush 8, 2) := by decide +kernel
theorem dX8_known_320 : decode cX8_known 320 = .ok (.iload_n 3, 1) := by decide +kernel
theorem dX8_known_321 : decode cX8_known 321 = .ok (.ifCond .ne 7, 3) := by decide +kernel
theorem dX8_known_324 : decode cX8_known 324 = .ok (.iconst 1, 1) := by decide +kernel
theorem dX8_known_325 : decode cX8_known 325 = .ok (.goto 19, 3) := by decide +kernel
theorem dX8_known_328 : decode cX8_known 328 = .ok (.iload_n 3, 1) := by decide +kernel
theorem dX8_known_329 : decode cX8_known 329 = .ok (.iconst 1, 1) := by decide +kernel
theorem dX8_known_330 : decode cX8_known 330 = .ok (.if_icmp .ne 7, 3) := by decide +kernel
theorem dX8_known_333 : decode cX8_known 333 = .ok (.iconst 0, 1) := by decide +kernel
theorem dX8_known_334 : decode cX8_known 334 = .ok (.goto 10, 3) := by decide +kernel
theorem dX8_known_337 : decode cX8_known 337 = .ok (.aload_n 0, 1) := by decide +kernel
theorem dX8_known_338 : decode cX8_known 338 = .ok (.getfield 7, 3) := by decide +kernel
theorem dX8_known_341 : decode cX8_known 341 = .ok (.bipush 8, 2) := by decide +kernel
theorem dX8_known_343 : decode cX8_known 343 = .ok (.iaload, 1) := by decide +kernel
theorem dX8_known_344 : decode cX8_known 344 = .ok (.iastore, 1) := by decide +kernel
theorem dX8_known_345 : decode cX8_known 345 = .ok (.goto 34, 3) := by decide +kernel
theorem dX8_known_348 : decode cX8_known 348 = .ok (.aload_n 0, 1) := by decide +kernel
theorem dX8_known_349 : decode cX8_known 349 = .ok (.bipush 38, 2) := by decide +kernel
theorem dX8_known_351 : decode cX8_known 351 = .ok (.bipush 102, 2) := by decide +kernel
theorem dX8_known_353 : decode cX8_known 353 = .ok (.bipush 83, 2) := by decide +kernel
theorem dX8_known_355 : decode cX8_known 355 = .ok (.iload_n 1, 1) := by decide +kernel
theorem dX8_known_356 : decode cX8_known 356 = .ok (.invokevirtual 215, 3) := by decide +kernel
theorem dX8_known_359 : decode cX8_known 359 = .ok (.ifCond .eq 11, 3) := by decide +kernel
theorem dX8_known_362 : decode cX8_known 362 = .ok (.aload_n 0, 1) := by decide +kernel
theorem dX8_known_363 : decode cX8_known 363 = .ok (.iload_n 3, 1) := by decide +kernel
theorem dX8_known_364 : decode cX8_known 364 = .ok (.invokevirtual 223, 3) := by decide +kernel
theorem dX8_known_367 : decode cX8_known 367 = .ok (.goto 12, 3) := by decide +kernel
theorem dX8_known_370 : decode cX8_known 370 = .ok (.aload_n 0, 1) := by decide +kernel
theorem dX8_known_371 : decode cX8_known 371 = .ok (.iload_n 1, 1) := by decide +kernel
theorem dX8_known_372 : decode cX8_known 372 = .ok (.iload_n 2, 1) := by decide +kernel
theorem dX8_known_373 : decode cX8_known 373 = .ok (.lload 4, 2) := by decide +kernel
theorem dX8_known_375 : decode cX8_known 375 = .ok (.invokevirtual 226, 3) := by decide +kernel
theorem dX8_known_378 : decode cX8_known 378 = .ok (.ireturn, 1) := by decide +kernel
theorem dX8_known_379 : decode cX8_known 379 = .ok (.iconst 1, 1) := by decide +kernel
theorem dX8_known_380 : decode cX8_known 380 = .ok (.ireturn, 1) := by decide +kernel
theorem dX8_stack_0 : decode cX8_stack 0 = .ok (.aload_n 0, 1) := by decide +kernel
theorem dX8_stack_1 : decode cX8_stack 1 = .ok (.getfield 7, 3) := by decide +kernel
theorem dX8_stack_4 : decode cX8_stack 4 = .ok (.bipush 12, 2) := by decide +kernel
theorem dX8_stack_6 : decode cX8_stack 6 = .ok (.iaload, 1) := by decide +kernel
theorem dX8_stack_7 : decode cX8_stack 7 = .ok (.istore_n 2, 1) := by decide +kernel
theorem dX8_stack_8 : decode cX8_stack 8 = .ok (.iload_n 1, 1) := by decide +kernel
theorem dX8_stack_9 : decode cX8_stack 9 = .ok (.ifCond .ne 57, 3) := by decide +kernel
theorem dX8_stack_12 : decode cX8_stack 12 = .ok (.iload_n 2, 1) := by decide +kernel
theorem dX8_stack_13 : decode cX8_stack 13 = .ok (.bipush 20, 2) := by decide +kernel
theorem dX8_stack_15 : decode cX8_stack 15 = .ok (.if_icmp .ge 51, 3) := by decide +kernel
theorem dX8_stack_18 : decode cX8_stack 18 = .ok (.aload_n 0, 1) := by decide +kernel
theorem dX8_stack_19 : decode cX8_stack 19 = .ok (.getfield 7, 3) := by decide +kernel
theorem dX8_stack_22 : decode cX8_stack 22 = .ok (.bipush 13, 2) := by decide +kernel
theorem dX8_stack_24 : decode cX8_stack 24 = .ok (.iconst 2, 1) := by decide +kernel
theorem dX8_stack_25 : decode cX8_stack 25 = .ok (.iload_n 2, 1) := by decide +kernel
theorem dX8_stack_26 : decode cX8_stack 26 = .ok (.imul, 1) := by decide +kernel
theorem dX8_stack_27 : decode cX8_stack 27 = .ok (.iadd, 1) := by decide +kernel
theorem dX8_stack_28 : decode cX8_stack 28 = .ok (.aload_n 0, 1) := by decide +kernel
theorem dX8_stack_29 : decode cX8_stack 29 = .ok (.getfield 7, 3) := by decide +kernel
theorem dX8_stack_32 : decode cX8_stack 32 = .ok (.iconst 0, 1) := by decide +kernel
theorem dX8_stack_33 : decode cX8_stack 33 = .ok (.iaload, 1) := by decide +kernel
theorem dX8_stack_34 : decode cX8_stack 34 = .ok (.iastore, 1) := by decide +kernel
theorem dX8_stack_35 : decode cX8_stack 35 = .ok (.aload_n 0, 1) := by decide +kernel
theorem dX8_stack_36 : decode cX8_stack 36 = .ok (.getfield 7, 3) := by decide +kernel
theorem dX8_stack_39 : decode cX8_stack 39 = .ok (.bipush 14, 2) := by decide +kernel
theorem dX8_stack_41 : decode cX8_stack 41 = .ok (.iconst 2, 1) := by decide +kernel
theorem dX8_stack_42 : decode cX8_stack 42 = .ok (.iload_n 2, 1) := by decide +kernel
theorem dX8_stack_43 : decode cX8_stack 43 = .ok (.imul, 1) := by decide +kernel
theorem dX8_stack_44 : decode cX8_stack 44 = .ok (.iadd, 1) := by decide +kernel
theorem dX8_stack_45 : decode cX8_stack 45 = .ok (.aload_n 0, 1) := by decide +kernel
theorem dX8_stack_46 : decode cX8_stack 46 = .ok (.getfield 7, 3) := by decide +kernel
theorem dX8_stack_49 : decode cX8_stack 49 = .ok (.iconst 1, 1) := by decide +kernel
theorem dX8_stack_50 : decode cX8_stack 50 = .ok (.iaload, 1) := by decide +kernel
theorem dX8_stack_51 : decode cX8_stack 51 = .ok (.iastore, 1) := by decide +kernel
theorem dX8_stack_52 : decode cX8_stack 52 = .ok (.aload_n 0, 1) := by decide +kernel
theorem dX8_stack_53 : decode cX8_stack 53 = .ok (.getfield 7, 3) := by decide +kernel
theorem dX8_stack_56 : decode cX8_stack 56 = .ok (.bipush 12, 2) := by decide +kernel
theorem dX8_stack_58 : decode cX8_stack 58 = .ok (.dup2, 1) := by decide +kernel
theorem dX8_stack_59 : decode cX8_stack 59 = .ok (.iaload, 1) := by decide +kernel
theorem dX8_stack_60 : decode cX8_stack 60 = .ok (.iconst 1, 1) := by decide +kernel
theorem dX8_stack_61 : decode cX8_stack 61 = .ok (.iadd, 1) := by decide +kernel
theorem dX8_stack_62 : decode cX8_stack 62 = .ok (.iastore, 1) := by decide +kernel
theorem dX8_stack_63 : decode cX8_stack 63 = .ok (.goto 55, 3) := by decide +kernel
theorem dX8_stack_66 : decode cX8_stack 66 = .ok (.iload_n 1, 1) := by decide +kernel
theorem dX8_stack_67 : decode cX8_stack 67 = .ok (.iconst 1, 1) := by decide +kernel
theorem dX8_stack_68 : decode cX8_stack 68 = .ok (.if_icmp .ne 50, 3) := by decide +kernel
theorem dX8_stack_71 : decode cX8_stack 71 = .ok (.iload_n 2, 1) := by decide +kernel
theorem dX8_stack_72 : decode cX8_stack 72 = .ok (.ifCond .le 46, 3) := by decide +kernel
theorem dX8_stack_75 : decode cX8_stack 75 = .ok (.aload_n 0, 1) := by decide +kernel
theorem dX8_stack_76 : decode cX8_stack 76 = .ok (.getfield 7, 3) := by decide +kernel
theorem dX8_stack_79 : decode cX8_stack 79 = .ok (.bipush 12, 2) := by decide +kernel
theorem dX8_stack_81 : decode cX8_stack 81 = .ok (.dup2, 1) := by decide +kernel
theorem dX8_stack_82 : decode cX8_stack 82 = .ok (.iaload, 1) := by decide +kernel
theorem dX8_stack_83 : decode cX8_stack 83 = .ok (.iconst 1, 1) := by decide +kernel
theorem dX8_stack_84 : decode cX8_stack 84 = .ok (.isub, 1) := by decide +kernel
theorem dX8_stack_85 : decode cX8_stack 85 = .ok (.iastore, 1) := by decide +kernel
theorem dX8_stack_86 : decode cX8_stack 86 = .ok (.aload_n 0, 1) := by decide +kernel
theorem dX8_stack_87 : decode cX8_stack 87 = .ok (.aload_n 0, 1) := by decide +kernel
theorem dX8_stack_88 : decode cX8_stack 88 = .ok (.getfield 7, 3) := by decide +kernel
theorem dX8_stack_91 : decode cX8_stack 91 = .ok (.bipush 11, 2) := by decide +kernel
theorem dX8_stack_93 : decode cX8_stack 93 = .ok (.iconst 2, 1) := by decide +kernel
theorem dX8_stack_94 : decode cX8_stack 94 = .ok (.iload_n 2, 1) := by decide +kernel
theorem dX8_stack_95 : decode cX8_stack 95 = .ok (.imul, 1) := by decide +kernel
theorem dX8_stack_96 : decode cX8_stack 96 = .ok (.iadd, 1) := by decide +kernel
theorem dX8_stack_97 : decode cX8_stack 97 = .ok (.iaload, 1) := by decide +kernel
theorem dX8_stack_98 : decode cX8_stack 98 = .ok (.i2l, 1) := by decide +kernel
theorem dX8_stack_99 : decode cX8_stack 99 = .ok (.invokevirtual 77, 3) := by decide +kernel
theorem dX8_stack_102 : decode cX8_stack 102 = .ok (.aload_n 0, 1) := by decide +kernel
theorem dX8_stack_103 : decode cX8_stack 103 = .ok (.aload_n 0, 1) := by decide +kernel
theorem dX8_stack_104 : decode cX8_stack 104 = .ok (.getfield 7, 3) := by decide +kernel
theorem dX8_stack_107 : decode cX8_stack 107 = .ok (.bipush 12, 2) := by decide +kernel
theorem dX8_stack_109 : decode cX8_stack 109 = .ok (.iconst 2, 1) := by decide +kernel
theorem dX8_stack_110 : decode cX8_stack 110 = .ok (.iload_n 2, 1) := by decide +kernel
theorem dX8_stack_111 : decode cX8_stack 111 = .ok (.imul, 1) := by decide +kernel
theorem dX8_stack_112 : decode cX8_stack 112 = .ok (.iadd, 1) := by decide +kernel
theorem dX8_stack_113 : decode cX8_stack 113 = .ok (.iaload, 1) := by decide +kernel
theorem dX8_stack_114 : decode cX8_stack 114 = .ok (.i2l, 1) := by decide +kernel
theorem dX8_stack_115 : decode cX8_stack 115 = .ok (.invokevirtual 85, 3) := by decide +kernel
theorem dX8_stack_118 : decode cX8_stack 118 = .ok (.return_, 1) := by decide +kernel
theorem dX8_cursor_0 : decode cX8_cursor 0 = .ok (.aload_n 0, 1) := by decide +kernel
theorem dX8_cursor_1 : decode cX8_cursor 1 = .ok (.bipush 38, 2) := by decide +kernel
theorem dX8_cursor_3 : decode cX8_cursor 3 = .ok (.bipush 97, 2) := by decide +kernel
theorem dX8_cursor_5 : decode cX8_cursor 5 = .ok (.bipush 67, 2) := by decide +kernel
theorem dX8_cursor_7 : decode cX8_cursor 7 = .ok (.iload_n 1, 1) := by decide +kernel
theorem dX8_cursor_8 : decode cX8_cursor 8 = .ok (.invokevirtual 215, 3) := by decide +kernel
theorem dX8_cursor_11 : decode cX8_cursor 11 = .ok (.ifCond .ne 31, 3) := by decide +kernel
theorem dX8_cursor_14 : decode cX8_cursor 14 = .ok (.aload_n 0, 1) := by decide +kernel
theorem dX8_cursor_15 : decode cX8_cursor 15 = .ok (.bipush 38, 2) := by decide +kernel
theorem dX8_cursor_17 : decode cX8_cursor 17 = .ok (.bipush 97, 2) := by decide +kernel
theorem dX8_cursor_19 : decode cX8_cursor 19 = .ok (.bipush 72, 2) := by decide +kernel
theorem dX8_cursor_21 : decode cX8_cursor 21 = .ok (.iload_n 1, 1) := by decide +kernel
theorem dX8_cursor_22 : decode cX8_cursor 22 = .ok (.invokevirtual 215, 3) := by decide +kernel
theorem dX8_cursor_25 : decode cX8_cursor 25 = .ok (.ifCond .ne 17, 3) := by decide +kernel
theorem dX8_cursor_28 : decode cX8_cursor 28 = .ok (.aload_n 0, 1) := by decide +kernel
theorem dX8_cursor_29 : decode cX8_cursor 29 = .ok (.bipush 42, 2) := by decide +kernel
theorem dX8_cursor_31 : decode cX8_cursor 31 = .ok (.bipush 112, 2) := by decide +kernel
theorem dX8_cursor_33 : decode cX8_cursor 33 = .ok (.bipush 88, 2) := by decide +kernel
theorem dX8_cursor_35 : decode cX8_cursor 35 = .ok (.iload_n 1, 1) := by decide +kernel
theorem dX8_cursor_36 : decode cX8_cursor 36 = .ok (.invokevirtual 215, 3) := by decide +kernel
theorem dX8_cursor_39 : decode cX8_cursor 39 = .ok (.ifCond .eq 7, 3) := by decide +kernel
theorem dX8_cursor_42 : decode cX8_cursor 42 = .ok (.iconst 1, 1) := by decide +kernel
theorem dX8_cursor_43 : decode cX8_cursor 43 = .ok (.goto 4, 3) := by decide +kernel
theorem dX8_cursor_46 : decode cX8_cursor 46 = .ok (.iconst 0, 1) := by decide +kernel
theorem dX8_cursor_47 : decode cX8_cursor 47 = .ok (.istore 5, 2) := by decide +kernel
theorem dX8_cursor_49 : decode cX8_cursor 49 = .ok (.aload_n 0, 1) := by decide +kernel
theorem dX8_cursor_50 : decode cX8_cursor 50 = .ok (.bipush 38, 2) := by decide +kernel
theorem dX8_cursor_52 : decode cX8_cursor 52 = .ok (.bipush 97, 2) := by decide +kernel
theorem dX8_cursor_54 : decode cX8_cursor 54 = .ok (.bipush 82, 2) := by decide +kernel
theorem dX8_cursor_56 : decode cX8_cursor 56 = .ok (.iload_n 1, 1) := by decide +kernel
theorem dX8_cursor_57 : decode cX8_cursor 57 = .ok (.invokevirtual 215, 3) := by decide +kernel
theorem dX8_cursor_60 : decode cX8_cursor 60 = .ok (.ifCond .ne 31, 3) := by decide +kernel
theorem dX8_cursor_63 : decode cX8_cursor 63 = .ok (.aload_n 0, 1) := by decide +kernel
theorem dX8_cursor_64 : decode cX8_cursor 64 = .ok (.bipush 38, 2) := by decide +kernel
theorem dX8_cursor_66 : decode cX8_cursor 66 = .ok (.bipush 97, 2) := by decide +kernel
theorem dX8_cursor_68 : decode cX8_cursor 68 = .ok (.bipush 86, 2) := by decide +kernel
theorem dX8_cursor_70 : decode cX8_cursor 70 = .ok (.iload_n 1, 1) := by decide +kernel
theorem dX8_cursor_71 : decode cX8_cursor 71 = .ok (.invokevirtual 215, 3) := by decide +kernel
theorem dX8_cursor_74 : decode cX8_cursor 74 = .ok (.ifCond .ne 17, 3) := by decide +kernel
theorem dX8_cursor_77 : decode cX8_cursor 77 = .ok (.aload_n 0, 1) := by decide +kernel
theorem dX8_cursor_78 : decode cX8_cursor 78 = .ok (.bipush 42, 2) := by decide +kernel
theorem dX8_cursor_80 : decode cX8_cursor 80 = .ok (.bipush 112, 2) := by decide +kernel
theorem dX8_cursor_82 : decode cX8_cursor 82 = .ok (.bipush 89, 2) := by decide +kernel
theorem dX8_cursor_84 : decode cX8_cursor 84 = .ok (.iload_n 1, 1) := by decide +kernel
theorem dX8_cursor_85 : decode cX8_cursor 85 = .ok (.invokevirtual 215, 3) := by decide +kernel
theorem dX8_cursor_88 : decode cX8_cursor 88 = .ok (.ifCond .eq 7, 3) := by decide +kernel
theorem dX8_cursor_91 : decode cX8_cursor 91 = .ok (.iconst 1, 1) := by decide +kernel
theorem dX8_cursor_92 : decode cX8_cursor 92 = .ok (.goto 4, 3) := by decide +kernel
theorem dX8_cursor_95 : decode cX8_cursor 95 = .ok (.iconst 0, 1) := by decide +kernel
theorem dX8_cursor_96 : decode cX8_cursor 96 = .ok (.istore 6, 2) := by decide +kernel
theorem dX8_cursor_98 : decode cX8_cursor 98 = .ok (.iload 5, 2) := by decide +kernel
theorem dX8_cursor_100 : decode cX8_cursor 100 = .ok (.ifCond .ne 10, 3) := by decide +kernel
theorem dX8_cursor_103 : decode cX8_cursor 103 = .ok (.iload 6, 2) := by decide +kernel
theorem dX8_cursor_105 : decode cX8_cursor 105 = .ok (.ifCond .ne 5, 3) := by decide +kernel
theorem dX8_cursor_108 : decode cX8_cursor 108 = .ok (.iconst 0, 1) := by decide +kernel
theorem dX8_cursor_109 : decode cX8_cursor 109 = .ok (.ireturn, 1) := by decide +kernel
theorem dX8_cursor_110 : decode cX8_cursor 110 = .ok (.iload_n 1, 1) := by decide +kernel
theorem dX8_cursor_111 : decode cX8_cursor 111 = .ok (.bipush 67, 2) := by decide +kernel
theorem dX8_cursor_113 : decode cX8_cursor 113 = .ok (.if_icmp .ne 14, 3) := by decide +kernel
theorem dX8_cursor_116 : decode cX8_cursor 116 = .ok (.aload_n 0, 1) := by decide +kernel
theorem dX8_cursor_117 : decode cX8_cursor 117 = .ok (.getfield 7, 3) := by decide +kernel
theorem dX8_cursor_120 : decode cX8_cursor 120 = .ok (.bipush 6, 2) := by decide +kernel
theorem dX8_cursor_122 : decode cX8_cursor 122 = .ok (.iaload, 1) := by decide +kernel
theorem dX8_cursor_123 : decode cX8_cursor 123 = .ok (.i2l, 1) := by decide +kernel
theorem dX8_cursor_124 : decode cX8_cursor 124 = .ok (.goto 38, 3) := by decide +kernel
theorem dX8_cursor_127 : decode cX8_cursor 127 = .ok (.iload_n 1, 1) := by decide +kernel
theorem dX8_cursor_128 : decode cX8_cursor 128 = .ok (.bipush 82, 2) := by decide +kernel
theorem dX8_cursor_130 : decode cX8_cursor 130 = .ok (.if_icmp .ne 14, 3) := by decide +kernel
theorem dX8_cursor_133 : decode cX8_cursor 133 = .ok (.aload_n 0, 1) := by decide +kernel
theorem dX8_cursor_134 : decode cX8_cursor 134 = .ok (.getfield 7, 3) := by decide +kernel
theorem dX8_cursor_137 : decode cX8_cursor 137 = .ok (.bipush 7, 2) := by decide +kernel
theorem dX8_cursor_139 : decode cX8_cursor 139 = .ok (.iaload, 1) := by decide +kernel
theorem dX8_cursor_140 : decode cX8_cursor 140 = .ok (.i2l, 1) := by decide +kernel
theorem dX8_cursor_141 : decode cX8_cursor 141 = .ok (.goto 21, 3) := by decide +kernel
theorem dX8_cursor_144 : decode cX8_cursor 144 = .ok (.aload_n 0, 1) := by decide +kernel
theorem dX8_cursor_145 : decode cX8_cursor 145 = .ok (.getfield 149, 3) := by decide +kernel
theorem dX8_cursor_148 : decode cX8_cursor 148 = .ok (.bipush 42, 2) := by decide +kernel
theorem dX8_cursor_150 : decode cX8_cursor 150 = .ok (.if_icmp .ne 9, 3) := by decide +kernel
theorem dX8_cursor_153 : decode cX8_cursor 153 = .ok (.ldc2_w 230, 3) := by decide +kernel
theorem dX8_cursor_156 : decode cX8_cursor 156 = .ok (.goto 6, 3) := by decide +kernel
theorem dX8_cursor_159 : decode cX8_cursor 159 = .ok (.ldc2_w 232, 3) := by decide +kernel
theorem dX8_cursor_162 : decode cX8_cursor 162 = .ok (.lstore 7, 2) := by decide +kernel
theorem dX8_cursor_164 : decode cX8_cursor 164 = .ok (.aload_n 0, 1) := by decide +kernel
theorem dX8_cursor_165 : decode cX8_cursor 165 = .ok (.getfield 128, 3) := by decide +kernel
theorem dX8_cursor_168 : decode cX8_cursor 168 = .ok (.ifCond .eq 53, 3) := by decide +kernel
theorem dX8_cursor_171 : decode cX8_cursor 171 = .ok (.iload_n 2, 1) := by decide +kernel
theorem dX8_cursor_172 : decode cX8_cursor 172 = .ok (.i2l, 1) := by decide +kernel
theorem dX8_cursor_173 : decode cX8_cursor 173 = .ok (.lload 7, 2) := by decide +kernel
theorem dX8_cursor_175 : decode cX8_cursor 175 = .ok (.lmul, 1) := by decide +kernel
theorem dX8_cursor_176 : decode cX8_cursor 176 = .ok (.ldc2_w 221, 3) := by decide +kernel
theorem dX8_cursor_179 : decode cX8_cursor 179 = .ok (.ldiv, 1) := by decide +kernel
theorem dX8_cursor_180 : decode cX8_cursor 180 = .ok (.lstore 9, 2) := by decide +kernel
theorem dX8_cursor_182 : decode cX8_cursor 182 = .ok (.iload 5, 2) := by decide +kernel
theorem dX8_cursor_184 : decode cX8_cursor 184 = .ok (.ifCond .eq 20, 3) := by decide +kernel
theorem dX8_cursor_187 : decode cX8_cursor 187 = .ok (.aload_n 0, 1) := by decide +kernel
theorem dX8_cursor_188 : decode cX8_cursor 188 = .ok (.aload_n 0, 1) := by decide +kernel
theorem dX8_cursor_189 : decode cX8_cursor 189 = .ok (.getfield 7, 3) := by decide +kernel
theorem dX8_cursor_192 : decode cX8_cursor 192 = .ok (.iconst 0, 1) := by decide +kernel
theorem dX8_cursor_193 : decode cX8_cursor 193 = .ok (.iaload, 1) := by decide +kernel
theorem dX8_cursor_194 : decode cX8_cursor 194 = .ok (.i2l, 1) := by decide +kernel
theorem dX8_cursor_195 : decode cX8_cursor 195 = .ok (.lload 9, 2) := by decide +kernel
theorem dX8_cursor_197 : decode cX8_cursor 197 = .ok (.ladd, 1) := by decide +kernel
theorem dX8_cursor_198 : decode cX8_cursor 198 = .ok (.invokevirtual 77, 3) := by decide +kernel
theorem dX8_cursor_201 : decode cX8_cursor 201 = .ok (.goto 17, 3) := by decide +kernel
theorem dX8_cursor_204 : decode cX8_cursor 204 = .ok (.aload_n 0, 1) := by decide +kernel
theorem dX8_cursor_205 : decode cX8_cursor 205 = .ok (.aload_n 0, 1) := by decide +kernel
theorem dX8_cursor_206 : decode cX8_cursor 206 = .ok (.getfield 7, 3) := by decide +kernel
theorem dX8_cursor_209 : decode cX8_cursor 209 = .ok (.iconst 1, 1) := by decide +kernel
theorem dX8_cursor_210 : decode cX8_cursor 210 = .ok (.iaload, 1) := by decide +kernel
theorem dX8_cursor_211 : decode cX8_cursor 211 = .ok (.i2l, 1) := by decide +kernel
theorem dX8_cursor_212 : decode cX8_cursor 212 = .ok (.lload 9, 2) := by decide +kernel
theorem dX8_cursor_214 : decode cX8_cursor 214 = .ok (.ladd, 1) := by decide +kernel
theorem dX8_cursor_215 : decode cX8_cursor 215 = .ok (.invokevirtual 85, 3) := by decide +kernel
theorem dX8_cursor_218 : decode cX8_cursor 218 = .ok (.goto 56, 3) := by decide +kernel
theorem dX8_cursor_221 : decode cX8_cursor 221 = .ok (.iload 5, 2) := by decide +kernel
theorem dX8_cursor_223 : decode cX8_cursor 223 = .ok (.ifCond .eq 18, 3) := by decide +kernel
theorem dX8_cursor_226 : decode cX8_cursor 226 = .ok (.aload_n 0, 1) := by decide +kernel
theorem dX8_cursor_227 : decode cX8_cursor 227 = .ok (.lload_n 3, 1) := by decide +kernel
theorem dX8_cursor_228 : decode cX8_cursor 228 = .ok (.lload 7, 2) := by decide +kernel
theorem dX8_cursor_230 : decode cX8_cursor 230 = .ok (.lmul, 1) := by decide +kernel
theorem dX8_cursor_231 : decode cX8_cursor 231 = .ok (.ldc2_w 221, 3) := by decide +kernel
theorem dX8_cursor_234 : decode cX8_cursor 234 = .ok (.ldiv, 1) := by decide +kernel
theorem dX8_cursor_235 : decode cX8_cursor 235 = .ok (.invokevirtual 77, 3) := by decide +kernel
theorem dX8_cursor_238 : decode cX8_cursor 238 = .ok (.goto 36, 3) := by decide +kernel
theorem dX8_cursor_241 : decode cX8_cursor 241 = .ok (.aload_n 0, 1) := by decide +kernel
theorem dX8_cursor_242 : decode cX8_cursor 242 = .ok (.iload_n 1, 1) := by decide +kernel
theorem dX8_cursor_243 : decode cX8_cursor 243 = .ok (.bipush 82, 2) := by decide +kernel
theorem dX8_cursor_245 : decode cX8_cursor 245 = .ok (.if_icmp .ne 10, 3) := by decide +kernel
theorem dX8_cursor_248 : decode cX8_cursor 248 = .ok (.aload_n 0, 1) := by decide +kernel
theorem dX8_cursor_249 : decode cX8_cursor 249 = .ok (.invokevirtual 81, 3) := by decide +kernel
theorem dX8_cursor_252 : decode cX8_cursor 252 = .ok (.goto 9, 3) := by decide +kernel
theorem dX8_cursor_255 : decode cX8_cursor 255 = .ok (.aload_n 0, 1) := by decide +kernel
theorem dX8_cursor_256 : decode cX8_cursor 256 = .ok (.getfield 7, 3) := by decide +kernel
theorem dX8_cursor_259 : decode cX8_cursor 259 = .ok (.iconst 4, 1) := by decide +kernel
theorem dX8_cursor_260 : decode cX8_cursor 260 = .ok (.iaload, 1) := by decide +kernel
theorem dX8_cursor_261 : decode cX8_cursor 261 = .ok (.i2l, 1) := by decide +kernel
theorem dX8_cursor_262 : decode cX8_cursor 262 = .ok (.lload_n 3, 1) := by decide +kernel
theorem dX8_cursor_263 : decode cX8_cursor 263 = .ok (.lload 7, 2) := by decide +kernel
theorem dX8_cursor_265 : decode cX8_cursor 265 = .ok (.lmul, 1) := by decide +kernel
theorem dX8_cursor_266 : decode cX8_cursor 266 = .ok (.ldc2_w 221, 3) := by decide +kernel
theorem dX8_cursor_269 : decode cX8_cursor 269 = .ok (.ldiv, 1) := by decide +kernel
theorem dX8_cursor_270 : decode cX8_cursor 270 = .ok (.ladd, 1) := by decide +kernel
theorem dX8_cursor_271 : decode cX8_cursor 271 = .ok (.invokevirtual 85, 3) := by decide +kernel
theorem dX8_cursor_274 : decode cX8_cursor 274 = .ok (.iconst 1, 1) := by decide +kernel
theorem dX8_cursor_275 : decode cX8_cursor 275 = .ok (.ireturn, 1) := by decide +kernel
theorem dX8_divides_0 : decode cX8_divides 0 = .ok (.iload_n 0, 1) := by decide +kernel
theorem dX8_divides_1 : decode cX8_divides 1 = .ok (.iconst 1, 1) := by decide +kernel
theorem dX8_divides_2 : decode cX8_divides 2 = .ok (.if_icmp .eq 54, 3) := by decide +kernel
theorem dX8_divides_5 : decode cX8_divides 5 = .ok (.iload_n 0, 1) := by decide +kernel
theorem dX8_divides_6 : decode cX8_divides 6 = .ok (.iconst 2, 1) := by decide +kernel
theorem dX8_divides_7 : decode cX8_divides 7 = .ok (.if_icmp .eq 49, 3) := by decide +kernel
theorem dX8_divides_10 : decode cX8_divides 10 = .ok (.iload_n 0, 1) := by decide +kernel
theorem dX8_divides_11 : decode cX8_divides 11 = .ok (.iconst 3, 1) := by decide +kernel
theorem dX8_divides_12 : decode cX8_divides 12 = .ok (.if_icmp .eq 44, 3) := by decide +kernel
theorem dX8_divides_15 : decode cX8_divides 15 = .ok (.iload_n 0, 1) := by decide +kernel
theorem dX8_divides_16 : decode cX8_divides 16 = .ok (.iconst 4, 1) := by decide +kernel
theorem dX8_divides_17 : decode cX8_divides 17 = .ok (.if_icmp .eq 39, 3) := by decide +kernel
theorem dX8_divides_20 : decode cX8_divides 20 = .ok (.iload_n 0, 1) := by decide +kernel
theorem dX8_divides_21 : decode cX8_divides 21 = .ok (.bipush 6, 2) := by decide +kernel
theorem dX8_divides_23 : decode cX8_divides 23 = .ok (.if_icmp .eq 33, 3) := by decide +kernel
theorem dX8_divides_26 : decode cX8_divides 26 = .ok (.iload_n 0, 1) := by decide +kernel
theorem dX8_divides_27 : decode cX8_divides 27 = .ok (.bipush 8, 2) := by decide +kernel
theorem dX8_divides_29 : decode cX8_divides 29 = .ok (.if_icmp .eq 27, 3) := by decide +kernel
theorem dX8_divides_32 : decode cX8_divides 32 = .ok (.iload_n 0, 1) := by decide +kernel
theorem dX8_divides_33 : decode cX8_divides 33 = .ok (.bipush 12, 2) := by decide +kernel
theorem dX8_divides_35 : decode cX8_divides 35 = .ok (.if_icmp .eq 21, 3) := by decide +kernel
theorem dX8_divides_38 : decode cX8_divides 38 = .ok (.iload_n 0, 1) := by decide +kernel
theorem dX8_divides_39 : decode cX8_divides 39 = .ok (.bipush 16, 2) := by decide +kernel
theorem dX8_divides_41 : decode cX8_divides 41 = .ok (.if_icmp .eq 15, 3) := by decide +kernel
theorem dX8_divides_44 : decode cX8_divides 44 = .ok (.iload_n 0, 1) := by decide +kernel
theorem dX8_divides_45 : decode cX8_divides 45 = .ok (.bipush 24, 2) := by decide +kernel
theorem dX8_divides_47 : decode cX8_divides 47 = .ok (.if_icmp .eq 9, 3) := by decide +kernel
theorem dX8_divides_50 : decode cX8_divides 50 = .ok (.iload_n 0, 1) := by decide +kernel
theorem dX8_divides_51 : decode cX8_divides 51 = .ok (.bipush 48, 2) := by decide +kernel
theorem dX8_divides_53 : decode cX8_divides 53 = .ok (.if_icmp .ne 7, 3) := by decide +kernel
theorem dX8_divides_56 : decode cX8_divides 56 = .ok (.iconst 1, 1) := by decide +kernel
theorem dX8_divides_57 : decode cX8_divides 57 = .ok (.goto 4, 3) := by decide +kernel
theorem dX8_divides_60 : decode cX8_divides 60 = .ok (.iconst 0, 1) := by decide +kernel
theorem dX8_divides_61 : decode cX8_divides 61 = .ok (.ireturn, 1) := by decide +kernel
theorem dX8_paging_0 : decode cX8_paging 0 = .ok (.iload_n 1, 1) := by decide +kernel
theorem dX8_paging_1 : decode cX8_paging 1 = .ok (.tableswitch 432 65 88 #[111, 432, 187, 234, 276, 358, 432, 432, 432, 432, 432, 405, 432, 432, 135, 432, 432, 432, 432, 432, 432, 432, 432, 157], 111) := by decide +kernel
theorem dX8_paging_112 : decode cX8_paging 112 = .ok (.iload 4, 2) := by decide +kernel
theorem dX8_paging_114 : decode cX8_paging 114 = .ok (.invokestatic 61, 3) := by decide +kernel
theorem dX8_paging_117 : decode cX8_paging 117 = .ok (.ifCond .le 17, 3) := by decide +kernel
theorem dX8_paging_120 : decode cX8_paging 120 = .ok (.aload_n 0, 1) := by decide +kernel
theorem dX8_paging_121 : decode cX8_paging 121 = .ok (.invokevirtual 122, 3) := by decide +kernel
theorem dX8_paging_124 : decode cX8_paging 124 = .ok (.aload_n 0, 1) := by decide +kernel
theorem dX8_paging_125 : decode cX8_paging 125 = .ok (.iload 4, 2) := by decide +kernel
theorem dX8_paging_127 : decode cX8_paging 127 = .ok (.putfield 54, 3) := by decide +kernel
theorem dX8_paging_130 : decode cX8_paging 130 = .ok (.aload_n 0, 1) := by decide +kernel
theorem dX8_paging_131 : decode cX8_paging 131 = .ok (.invokevirtual 91, 3) := by decide +kernel
theorem dX8_paging_134 : decode cX8_paging 134 = .ok (.iconst 1, 1) := by decide +kernel
theorem dX8_paging_135 : decode cX8_paging 135 = .ok (.ireturn, 1) := by decide +kernel
theorem dX8_paging_136 : decode cX8_paging 136 = .ok (.iload 4, 2) := by decide +kernel
theorem dX8_paging_138 : decode cX8_paging 138 = .ok (.iconst 4, 1) := by decide +kernel
theorem dX8_paging_139 : decode cX8_paging 139 = .ok (.if_icmp .ge 17, 3) := by decide +kernel
theorem dX8_paging_142 : decode cX8_paging 142 = .ok (.aload_n 0, 1) := by decide +kernel
theorem dX8_paging_143 : decode cX8_paging 143 = .ok (.invokevirtual 122, 3) := by decide +kernel
theorem dX8_paging_146 : decode cX8_paging 146 = .ok (.aload_n 0, 1) := by decide +kernel
theorem dX8_paging_147 : decode cX8_paging 147 = .ok (.iload 4, 2) := by decide +kernel
theorem dX8_paging_149 : decode cX8_paging 149 = .ok (.putfield 51, 3) := by decide +kernel
theorem dX8_paging_152 : decode cX8_paging 152 = .ok (.aload_n 0, 1) := by decide +kernel
theorem dX8_paging_153 : decode cX8_paging 153 = .ok (.invokevirtual 91, 3) := by decide +kernel
theorem dX8_paging_156 : decode cX8_paging 156 = .ok (.iconst 1, 1) := by decide +kernel
theorem dX8_paging_157 : decode cX8_paging 157 = .ok (.ireturn, 1) := by decide +kernel
theorem dX8_paging_158 : decode cX8_paging 158 = .ok (.aload_n 0, 1) := by decide +kernel
theorem dX8_paging_159 : decode cX8_paging 159 = .ok (.iload 4, 2) := by decide +kernel
theorem dX8_paging_161 : decode cX8_paging 161 = .ok (.iconst 1, 1) := by decide +kernel
theorem dX8_paging_162 : decode cX8_paging 162 = .ok (.if_icmp .ge 7, 3) := by decide +kernel
theorem dX8_paging_165 : decode cX8_paging 165 = .ok (.iconst 1, 1) := by decide +kernel
theorem dX8_paging_166 : decode cX8_paging 166 = .ok (.goto 17, 3) := by decide +kernel
theorem dX8_paging_169 : decode cX8_paging 169 = .ok (.iload 4, 2) := by decide +kernel
theorem dX8_paging_171 : decode cX8_paging 171 = .ok (.bipush 99, 2) := by decide +kernel
theorem dX8_paging_173 : decode cX8_paging 173 = .ok (.if_icmp .le 8, 3) := by decide +kernel
theorem dX8_paging_176 : decode cX8_paging 176 = .ok (.bipush 99, 2) := by decide +kernel
theorem dX8_paging_178 : decode cX8_paging 178 = .ok (.goto 5, 3) := by decide +kernel
theorem dX8_paging_181 : decode cX8_paging 181 = .ok (.iload 4, 2) := by decide +kernel
theorem dX8_paging_183 : decode cX8_paging 183 = .ok (.putfield 88, 3) := by decide +kernel
theorem dX8_paging_186 : decode cX8_paging 186 = .ok (.iconst 1, 1) := by decide +kernel
theorem dX8_paging_187 : decode cX8_paging 187 = .ok (.ireturn, 1) := by decide +kernel
theorem dX8_paging_188 : decode cX8_paging 188 = .ok (.aload_n 0, 1) := by decide +kernel
theorem dX8_paging_189 : decode cX8_paging 189 = .ok (.getfield 7, 3) := by decide +kernel
theorem dX8_paging_192 : decode cX8_paging 192 = .ok (.bipush 7, 2) := by decide +kernel
theorem dX8_paging_194 : decode cX8_paging 194 = .ok (.ldc2_w 234, 3) := by decide +kernel
theorem dX8_paging_197 : decode cX8_paging 197 = .ok (.lload_n 2, 1) := by decide +kernel
theorem dX8_paging_198 : decode cX8_paging 198 = .ok (.lmul, 1) := by decide +kernel
theorem dX8_paging_199 : decode cX8_paging 199 = .ok (.ldc2_w 221, 3) := by decide +kernel
theorem dX8_paging_202 : decode cX8_paging 202 = .ok (.ldiv, 1) := by decide +kernel
theorem dX8_paging_203 : decode cX8_paging 203 = .ok (.aload_n 0, 1) := by decide +kernel
theorem dX8_paging_204 : decode cX8_paging 204 = .ok (.getfield 67, 3) := by decide +kernel
theorem dX8_paging_207 : decode cX8_paging 207 = .ok (.i2l, 1) := by decide +kernel
theorem dX8_paging_208 : decode cX8_paging 208 = .ok (.lcmp, 1) := by decide +kernel
theorem dX8_paging_209 : decode cX8_paging 209 = .ok (.ifCond .gt 16, 3) := by decide +kernel
theorem dX8_paging_212 : decode cX8_paging 212 = .ok (.ldc2_w 234, 3) := by decide +kernel
theorem dX8_paging_215 : decode cX8_paging 215 = .ok (.lload_n 2, 1) := by decide +kernel
theorem dX8_paging_216 : decode cX8_paging 216 = .ok (.lmul, 1) := by decide +kernel
theorem dX8_paging_217 : decode cX8_paging 217 = .ok (.ldc2_w 221, 3) := by decide +kernel
theorem dX8_paging_220 : decode cX8_paging 220 = .ok (.ldiv, 1) := by decide +kernel
theorem dX8_paging_221 : decode cX8_paging 221 = .ok (.l2i, 1) := by decide +kernel
theorem dX8_paging_222 : decode cX8_paging 222 = .ok (.goto 10, 3) := by decide +kernel
theorem dX8_paging_225 : decode cX8_paging 225 = .ok (.aload_n 0, 1) := by decide +kernel
theorem dX8_paging_226 : decode cX8_paging 226 = .ok (.getfield 7, 3) := by decide +kernel
theorem dX8_paging_229 : decode cX8_paging 229 = .ok (.bipush 7, 2) := by decide +kernel
theorem dX8_paging_231 : decode cX8_paging 231 = .ok (.iaload, 1) := by decide +kernel
theorem dX8_paging_232 : decode cX8_paging 232 = .ok (.iastore, 1) := by decide +kernel
theorem dX8_paging_233 : decode cX8_paging 233 = .ok (.iconst 1, 1) := by decide +kernel
theorem dX8_paging_234 : decode cX8_paging 234 = .ok (.ireturn, 1) := by decide +kernel
theorem dX8_paging_235 : decode cX8_paging 235 = .ok (.aload_n 0, 1) := by decide +kernel
theorem dX8_paging_236 : decode cX8_paging 236 = .ok (.getfield 7, 3) := by decide +kernel
theorem dX8_paging_239 : decode cX8_paging 239 = .ok (.bipush 7, 2) := by decide +kernel
theorem dX8_paging_241 : decode cX8_paging 241 = .ok (.iload 4, 2) := by decide +kernel
theorem dX8_paging_243 : decode cX8_paging 243 = .ok (.invokestatic 236, 3) := by decide +kernel
theorem dX8_paging_246 : decode cX8_paging 246 = .ok (.ifCond .eq 21, 3) := by decide +kernel
theorem dX8_paging_249 : decode cX8_paging 249 = .ok (.sipush 7200, 3) := by decide +kernel
theorem dX8_paging_252 : decode cX8_paging 252 = .ok (.iload 4, 2) := by decide +kernel
theorem dX8_paging_254 : decode cX8_paging 254 = .ok (.ifCond .ne 7, 3) := by decide +kernel
theorem dX8_paging_257 : decode cX8_paging 257 = .ok (.iconst 1, 1) := by decide +kernel
theorem dX8_paging_258 : decode cX8_paging 258 = .ok (.goto 5, 3) := by decide +kernel
theorem dX8_paging_261 : decode cX8_paging 261 = .ok (.iload 4, 2) := by decide +kernel
theorem dX8_paging_263 : decode cX8_paging 263 = .ok (.idiv, 1) := by decide +kernel
theorem dX8_paging_264 : decode cX8_paging 264 = .ok (.goto 10, 3) := by decide +kernel
theorem dX8_paging_267 : decode cX8_paging 267 = .ok (.aload_n 0, 1) := by decide +kernel
theorem dX8_paging_268 : decode cX8_paging 268 = .ok (.getfield 7, 3) := by decide +kernel
theorem dX8_paging_271 : decode cX8_paging 271 = .ok (.bipush 7, 2) := by decide +kernel
theorem dX8_paging_273 : decode cX8_paging 273 = .ok (.iaload, 1) := by decide +kernel
theorem dX8_paging_274 : decode cX8_paging 274 = .ok (.iastore, 1) := by decide +kernel
theorem dX8_paging_275 : decode cX8_paging 275 = .ok (.iconst 1, 1) := by decide +kernel
theorem dX8_paging_276 : decode cX8_paging 276 = .ok (.ireturn, 1) := by decide +kernel
theorem dX8_paging_277 : decode cX8_paging 277 = .ok (.iload 4, 2) := by decide +kernel
theorem dX8_paging_279 : decode cX8_paging 279 = .ok (.i2l, 1) := by decide +kernel
theorem dX8_paging_280 : decode cX8_paging 280 = .ok (.aload_n 0, 1) := by decide +kernel
theorem dX8_paging_281 : decode cX8_paging 281 = .ok (.getfield 7, 3) := by decide +kernel
theorem dX8_paging_284 : decode cX8_paging 284 = .ok (.bipush 7, 2) := by decide +kernel
theorem dX8_paging_286 : decode cX8_paging 286 = .ok (.iaload, 1) := by decide +kernel
theorem dX8_paging_287 : decode cX8_paging 287 = .ok (.i2l, 1) := by decide +kernel
theorem dX8_paging_288 : decode cX8_paging 288 = .ok (.lmul, 1) := by decide +kernel
theorem dX8_paging_289 : decode cX8_paging 289 = .ok (.aload_n 0, 1) := by decide +kernel
theorem dX8_paging_290 : decode cX8_paging 290 = .ok (.getfield 67, 3) := by decide +kernel
theorem dX8_paging_293 : decode cX8_paging 293 = .ok (.i2l, 1) := by decide +kernel
theorem dX8_paging_294 : decode cX8_paging 294 = .ok (.lcmp, 1) := by decide +kernel
theorem dX8_paging_295 : decode cX8_paging 295 = .ok (.ifCond .gt 62, 3) := by decide +kernel
theorem dX8_paging_298 : decode cX8_paging 298 = .ok (.aload_n 0, 1) := by decide +kernel
theorem dX8_paging_299 : decode cX8_paging 299 = .ok (.getfield 7, 3) := by decide +kernel
theorem dX8_paging_302 : decode cX8_paging 302 = .ok (.iconst 4, 1) := by decide +kernel
theorem dX8_paging_303 : decode cX8_paging 303 = .ok (.iload 4, 2) := by decide +kernel
theorem dX8_paging_305 : decode cX8_paging 305 = .ok (.aload_n 0, 1) := by decide +kernel
theorem dX8_paging_306 : decode cX8_paging 306 = .ok (.getfield 7, 3) := by decide +kernel
theorem dX8_paging_309 : decode cX8_paging 309 = .ok (.bipush 7, 2) := by decide +kernel
theorem dX8_paging_311 : decode cX8_paging 311 = .ok (.iaload, 1) := by decide +kernel
theorem dX8_paging_312 : decode cX8_paging 312 = .ok (.imul, 1) := by decide +kernel
theorem dX8_paging_313 : decode cX8_paging 313 = .ok (.iastore, 1) := by decide +kernel
theorem dX8_paging_314 : decode cX8_paging 314 = .ok (.aload_n 0, 1) := by decide +kernel
theorem dX8_paging_315 : decode cX8_paging 315 = .ok (.getfield 7, 3) := by decide +kernel
theorem dX8_paging_318 : decode cX8_paging 318 = .ok (.iconst 5, 1) := by decide +kernel
theorem dX8_paging_319 : decode cX8_paging 319 = .ok (.aload_n 0, 1) := by decide +kernel
theorem dX8_paging_320 : decode cX8_paging 320 = .ok (.getfield 67, 3) := by decide +kernel
theorem dX8_paging_323 : decode cX8_paging 323 = .ok (.aload_n 0, 1) := by decide +kernel
theorem dX8_paging_324 : decode cX8_paging 324 = .ok (.getfield 7, 3) := by decide +kernel
theorem dX8_paging_327 : decode cX8_paging 327 = .ok (.iconst 4, 1) := by decide +kernel
theorem dX8_paging_328 : decode cX8_paging 328 = .ok (.iaload, 1) := by decide +kernel
theorem dX8_paging_329 : decode cX8_paging 329 = .ok (.isub, 1) := by decide +kernel
theorem dX8_paging_330 : decode cX8_paging 330 = .ok (.sipush 3600, 3) := by decide +kernel
theorem dX8_paging_333 : decode cX8_paging 333 = .ok (.isub, 1) := by decide +kernel
theorem dX8_paging_334 : decode cX8_paging 334 = .ok (.ifCond .ge 7, 3) := by decide +kernel
theorem dX8_paging_337 : decode cX8_paging 337 = .ok (.iconst 0, 1) := by decide +kernel
theorem dX8_paging_338 : decode cX8_paging 338 = .ok (.goto 18, 3) := by decide +kernel
theorem dX8_paging_341 : decode cX8_paging 341 = .ok (.aload_n 0, 1) := by decide +kernel
theorem dX8_paging_342 : decode cX8_paging 342 = .ok (.getfield 67, 3) := by decide +kernel
theorem dX8_paging_345 : decode cX8_paging 345 = .ok (.aload_n 0, 1) := by decide +kernel
theorem dX8_paging_346 : decode cX8_paging 346 = .ok (.getfield 7, 3) := by decide +kernel
theorem dX8_paging_349 : decode cX8_paging 349 = .ok (.iconst 4, 1) := by decide +kernel
theorem dX8_paging_350 : decode cX8_paging 350 = .ok (.iaload, 1) := by decide +kernel
theorem dX8_paging_351 : decode cX8_paging 351 = .ok (.isub, 1) := by decide +kernel
theorem dX8_paging_352 : decode cX8_paging 352 = .ok (.sipush 3600, 3) := by decide +kernel
theorem dX8_paging_355 : decode cX8_paging 355 = .ok (.isub, 1) := by decide +kernel
theorem dX8_paging_356 : decode cX8_paging 356 = .ok (.iastore, 1) := by decide +kernel
theorem dX8_paging_357 : decode cX8_paging 357 = .ok (.iconst 1, 1) := by decide +kernel
theorem dX8_paging_358 : decode cX8_paging 358 = .ok (.ireturn, 1) := by decide +kernel
theorem dX8_paging_359 : decode cX8_paging 359 = .ok (.aload_n 0, 1) := by decide +kernel
theorem dX8_paging_360 : decode cX8_paging 360 = .ok (.getfield 7, 3) := by decide +kernel
theorem dX8_paging_363 : decode cX8_paging 363 = .ok (.iconst 4, 1) := by decide +kernel
theorem dX8_paging_364 : decode cX8_paging 364 = .ok (.iaload, 1) := by decide +kernel
theorem dX8_paging_365 : decode cX8_paging 365 = .ok (.i2l, 1) := by decide +kernel
theorem dX8_paging_366 : decode cX8_paging 366 = .ok (.iload 4, 2) := by decide +kernel
theorem dX8_paging_368 : decode cX8_paging 368 = .ok (.i2l, 1) := by decide +kernel
theorem dX8_paging_369 : decode cX8_paging 369 = .ok (.aload_n 0, 1) := by decide +kernel
theorem dX8_paging_370 : decode cX8_paging 370 = .ok (.getfield 7, 3) := by decide +kernel
theorem dX8_paging_373 : decode cX8_paging 373 = .ok (.bipush 7, 2) := by decide +kernel
theorem dX8_paging_375 : decode cX8_paging 375 = .ok (.iaload, 1) := by decide +kernel
theorem dX8_paging_376 : decode cX8_paging 376 = .ok (.i2l, 1) := by decide +kernel
theorem dX8_paging_377 : decode cX8_paging 377 = .ok (.lmul, 1) := by decide +kernel
theorem dX8_paging_378 : decode cX8_paging 378 = .ok (.ladd, 1) := by decide +kernel
theorem dX8_paging_379 : decode cX8_paging 379 = .ok (.aload_n 0, 1) := by decide +kernel
theorem dX8_paging_380 : decode cX8_paging 380 = .ok (.getfield 67, 3) := by decide +kernel
theorem dX8_paging_383 : decode cX8_paging 383 = .ok (.i2l, 1) := by decide +kernel
theorem dX8_paging_384 : decode cX8_paging 384 = .ok (.lcmp, 1) := by decide +kernel
theorem dX8_paging_385 : decode cX8_paging 385 = .ok (.ifCond .gt 19, 3) := by decide +kernel
theorem dX8_paging_388 : decode cX8_paging 388 = .ok (.aload_n 0, 1) := by decide +kernel
theorem dX8_paging_389 : decode cX8_paging 389 = .ok (.getfield 7, 3) := by decide +kernel
theorem dX8_paging_392 : decode cX8_paging 392 = .ok (.iconst 5, 1) := by decide +kernel
theorem dX8_paging_393 : decode cX8_paging 393 = .ok (.iload 4, 2) := by decide +kernel
theorem dX8_paging_395 : decode cX8_paging 395 = .ok (.aload_n 0, 1) := by decide +kernel
theorem dX8_paging_396 : decode cX8_paging 396 = .ok (.getfield 7, 3) := by decide +kernel
theorem dX8_paging_399 : decode cX8_paging 399 = .ok (.bipush 7, 2) := by decide +kernel
theorem dX8_paging_401 : decode cX8_paging 401 = .ok (.iaload, 1) := by decide +kernel
theorem dX8_paging_402 : decode cX8_paging 402 = .ok (.imul, 1) := by decide +kernel
theorem dX8_paging_403 : decode cX8_paging 403 = .ok (.iastore, 1) := by decide +kernel
theorem dX8_paging_404 : decode cX8_paging 404 = .ok (.iconst 1, 1) := by decide +kernel
theorem dX8_paging_405 : decode cX8_paging 405 = .ok (.ireturn, 1) := by decide +kernel
theorem dX8_paging_406 : decode cX8_paging 406 = .ok (.aload_n 0, 1) := by decide +kernel
theorem dX8_paging_407 : decode cX8_paging 407 = .ok (.getfield 7, 3) := by decide +kernel
theorem dX8_paging_410 : decode cX8_paging 410 = .ok (.bipush 9, 2) := by decide +kernel
theorem dX8_paging_412 : decode cX8_paging 412 = .ok (.iload 4, 2) := by decide +kernel
theorem dX8_paging_414 : decode cX8_paging 414 = .ok (.iconst 2, 1) := by decide +kernel
theorem dX8_paging_415 : decode cX8_paging 415 = .ok (.if_icmp .ge 8, 3) := by decide +kernel
theorem dX8_paging_418 : decode cX8_paging 418 = .ok (.iload 4, 2) := by decide +kernel
theorem dX8_paging_420 : decode cX8_paging 420 = .ok (.goto 10, 3) := by decide +kernel
theorem dX8_paging_423 : decode cX8_paging 423 = .ok (.aload_n 0, 1) := by decide +kernel
theorem dX8_paging_424 : decode cX8_paging 424 = .ok (.getfield 7, 3) := by decide +kernel
theorem dX8_paging_427 : decode cX8_paging 427 = .ok (.bipush 9, 2) := by decide +kernel
theorem dX8_paging_429 : decode cX8_paging 429 = .ok (.iaload, 1) := by decide +kernel
theorem dX8_paging_430 : decode cX8_paging 430 = .ok (.iastore, 1) := by decide +kernel
theorem dX8_paging_431 : decode cX8_paging 431 = .ok (.iconst 1, 1) := by decide +kernel
theorem dX8_paging_432 : decode cX8_paging 432 = .ok (.ireturn, 1) := by decide +kernel
theorem dX8_paging_433 : decode cX8_paging 433 = .ok (.iconst 0, 1) := by decide +kernel
theorem dX8_paging_434 : decode cX8_paging 434 = .ok (.ireturn, 1) := by decide +kernel
theorem dX8_advance_0 : decode cX8_advance 0 = .ok (.aload_n 0, 1) := by decide +kernel
theorem dX8_advance_1 : decode cX8_advance 1 = .ok (.iconst 0, 1) := by decide +kernel
theorem dX8_advance_2 : decode cX8_advance 2 = .ok (.putfield 39, 3) := by decide +kernel
theorem dX8_advance_5 : decode cX8_advance 5 = .ok (.iload_n 1, 1) := by decide +kernel
theorem dX8_advance_6 : decode cX8_advance 6 = .ok (.ifCond .lt 31, 3) := by decide +kernel
theorem dX8_advance_9 : decode cX8_advance 9 = .ok (.iload_n 1, 1) := by decide +kernel
theorem dX8_advance_10 : decode cX8_advance 10 = .ok (.iconst 1, 1) := by decide +kernel
theorem dX8_advance_11 : decode cX8_advance 11 = .ok (.if_icmp .gt 26, 3) := by decide +kernel
theorem dX8_advance_14 : decode cX8_advance 14 = .ok (.iload_n 2, 1) := by decide +kernel
theorem dX8_advance_15 : decode cX8_advance 15 = .ok (.ifCond .lt 22, 3) := by decide +kernel
theorem dX8_advance_18 : decode cX8_advance 18 = .ok (.iload_n 2, 1) := by decide +kernel
theorem dX8_advance_19 : decode cX8_advance 19 = .ok (.sipush 255, 3) := by decide +kernel
theorem dX8_advance_22 : decode cX8_advance 22 = .ok (.if_icmp .gt 15, 3) := by decide +kernel
theorem dX8_advance_25 : decode cX8_advance 25 = .ok (.iload_n 3, 1) := by decide +kernel
theorem dX8_advance_26 : decode cX8_advance 26 = .ok (.iconst (-1), 1) := by decide +kernel
theorem dX8_advance_27 : decode cX8_advance 27 = .ok (.if_icmp .lt 10, 3) := by decide +kernel
theorem dX8_advance_30 : decode cX8_advance 30 = .ok (.iload_n 3, 1) := by decide +kernel
theorem dX8_advance_31 : decode cX8_advance 31 = .ok (.sipush 20000, 3) := by decide +kernel
theorem dX8_advance_34 : decode cX8_advance 34 = .ok (.if_icmp .le 5, 3) := by decide +kernel
theorem dX8_advance_37 : decode cX8_advance 37 = .ok (.iconst 0, 1) := by decide +kernel
theorem dX8_advance_38 : decode cX8_advance 38 = .ok (.ireturn, 1) := by decide +kernel
theorem dX8_advance_39 : decode cX8_advance 39 = .ok (.aload_n 0, 1) := by decide +kernel
theorem dX8_advance_40 : decode cX8_advance 40 = .ok (.getfield 20, 3) := by decide +kernel
theorem dX8_advance_43 : decode cX8_advance 43 = .ok (.sipush 256, 3) := by decide +kernel
theorem dX8_advance_46 : decode cX8_advance 46 = .ok (.iload_n 1, 1) := by decide +kernel
theorem dX8_advance_47 : decode cX8_advance 47 = .ok (.imul, 1) := by decide +kernel
theorem dX8_advance_48 : decode cX8_advance 48 = .ok (.iload_n 2, 1) := by decide +kernel
theorem dX8_advance_49 : decode cX8_advance 49 = .ok (.iadd, 1) := by decide +kernel
theorem dX8_advance_50 : decode cX8_advance 50 = .ok (.iload_n 3, 1) := by decide +kernel
theorem dX8_advance_51 : decode cX8_advance 51 = .ok (.iastore, 1) := by decide +kernel
theorem dX8_advance_52 : decode cX8_advance 52 = .ok (.iconst 1, 1) := by decide +kernel
theorem dX8_advance_53 : decode cX8_advance 53 = .ok (.ireturn, 1) := by decide +kernel
theorem dX8_move_0 : decode cX8_move 0 = .ok (.aload_n 0, 1) := by decide +kernel
theorem dX8_move_1 : decode cX8_move 1 = .ok (.iconst 0, 1) := by decide +kernel
theorem dX8_move_2 : decode cX8_move 2 = .ok (.putfield 39, 3) := by decide +kernel
theorem dX8_move_5 : decode cX8_move 5 = .ok (.aload_n 0, 1) := by decide +kernel
theorem dX8_move_6 : decode cX8_move 6 = .ok (.iload_n 1, 1) := by decide +kernel
theorem dX8_move_7 : decode cX8_move 7 = .ok (.i2l, 1) := by decide +kernel
theorem dX8_move_8 : decode cX8_move 8 = .ok (.invokevirtual 77, 3) := by decide +kernel
theorem dX8_move_11 : decode cX8_move 11 = .ok (.aload_n 0, 1) := by decide +kernel
theorem dX8_move_12 : decode cX8_move 12 = .ok (.iload_n 2, 1) := by decide +kernel
theorem dX8_move_13 : decode cX8_move 13 = .ok (.i2l, 1) := by decide +kernel
theorem dX8_move_14 : decode cX8_move 14 = .ok (.invokevirtual 85, 3) := by decide +kernel
theorem dX8_move_17 : decode cX8_move 17 = .ok (.return_, 1) := by decide +kernel
theorem dX8_due_0 : decode cX8_due 0 = .ok (.aload_n 0, 1) := by decide +kernel
theorem dX8_due_1 : decode cX8_due 1 = .ok (.iconst 0, 1) := by decide +kernel
theorem dX8_due_2 : decode cX8_due 2 = .ok (.putfield 39, 3) := by decide +kernel
theorem dX8_due_5 : decode cX8_due 5 = .ok (.aload_n 0, 1) := by decide +kernel
theorem dX8_due_6 : decode cX8_due 6 = .ok (.iconst 1, 1) := by decide +kernel
theorem dX8_due_7 : decode cX8_due 7 = .ok (.putfield 103, 3) := by decide +kernel
theorem dX8_due_10 : decode cX8_due 10 = .ok (.return_, 1) := by decide +kernel
theorem dX8_keep_0 : decode cX8_keep 0 = .ok (.aload_n 0, 1) := by decide +kernel
theorem dX8_keep_1 : decode cX8_keep 1 = .ok (.iconst 0, 1) := by decide +kernel
theorem dX8_keep_2 : decode cX8_keep 2 = .ok (.putfield 39, 3) := by decide +kernel
theorem dX8_keep_5 : decode cX8_keep 5 = .ok (.iload_n 1, 1) := by decide +kernel
theorem dX8_keep_6 : decode cX8_keep 6 = .ok (.ifCond .lt 8, 3) := by decide +kernel
theorem dX8_keep_9 : decode cX8_keep 9 = .ok (.iload_n 1, 1) := by decide +kernel
theorem dX8_keep_10 : decode cX8_keep 10 = .ok (.iconst 2, 1) := by decide +kernel
theorem dX8_keep_11 : decode cX8_keep 11 = .ok (.if_icmp .le 5, 3) := by decide +kernel
theorem dX8_keep_14 : decode cX8_keep 14 = .ok (.iconst 0, 1) := by decide +kernel
theorem dX8_keep_15 : decode cX8_keep 15 = .ok (.ireturn, 1) := by decide +kernel
theorem dX8_keep_16 : decode cX8_keep 16 = .ok (.iconst 0, 1) := by decide +kernel
theorem dX8_keep_17 : decode cX8_keep 17 = .ok (.istore_n 2, 1) := by decide +kernel
theorem dX8_keep_18 : decode cX8_keep 18 = .ok (.iload_n 2, 1) := by decide +kernel
theorem dX8_keep_19 : decode cX8_keep 19 = .ok (.bipush 53, 2) := by decide +kernel
theorem dX8_keep_21 : decode cX8_keep 21 = .ok (.if_icmp .ge 26, 3) := by decide +kernel
theorem dX8_keep_24 : decode cX8_keep 24 = .ok (.aload_n 0, 1) := by decide +kernel
theorem dX8_keep_25 : decode cX8_keep 25 = .ok (.getfield 13, 3) := by decide +kernel
theorem dX8_keep_28 : decode cX8_keep 28 = .ok (.bipush 53, 2) := by decide +kernel
theorem dX8_keep_30 : decode cX8_keep 30 = .ok (.iload_n 1, 1) := by decide +kernel
theorem dX8_keep_31 : decode cX8_keep 31 = .ok (.imul, 1) := by decide +kernel
theorem dX8_keep_32 : decode cX8_keep 32 = .ok (.iload_n 2, 1) := by decide +kernel
theorem dX8_keep_33 : decode cX8_keep 33 = .ok (.iadd, 1) := by decide +kernel
theorem dX8_keep_34 : decode cX8_keep 34 = .ok (.aload_n 0, 1) := by decide +kernel
theorem dX8_keep_35 : decode cX8_keep 35 = .ok (.getfield 7, 3) := by decide +kernel
theorem dX8_keep_38 : decode cX8_keep 38 = .ok (.iload_n 2, 1) := by decide +kernel
theorem dX8_keep_39 : decode cX8_keep 39 = .ok (.iaload, 1) := by decide +kernel
theorem dX8_keep_40 : decode cX8_keep 40 = .ok (.iastore, 1) := by decide +kernel
theorem dX8_keep_41 : decode cX8_keep 41 = .ok (.iinc 2 1, 3) := by decide +kernel
theorem dX8_keep_44 : decode cX8_keep 44 = .ok (.goto (-26), 3) := by decide +kernel
theorem dX8_keep_47 : decode cX8_keep 47 = .ok (.aload_n 0, 1) := by decide +kernel
theorem dX8_keep_48 : decode cX8_keep 48 = .ok (.getfield 16, 3) := by decide +kernel
theorem dX8_keep_51 : decode cX8_keep 51 = .ok (.iload_n 1, 1) := by decide +kernel
theorem dX8_keep_52 : decode cX8_keep 52 = .ok (.iconst 1, 1) := by decide +kernel
theorem dX8_keep_53 : decode cX8_keep 53 = .ok (.bastore, 1) := by decide +kernel
theorem dX8_keep_54 : decode cX8_keep 54 = .ok (.iconst 1, 1) := by decide +kernel
theorem dX8_keep_55 : decode cX8_keep 55 = .ok (.ireturn, 1) := by decide +kernel
theorem dX8_bring_0 : decode cX8_bring 0 = .ok (.aload_n 0, 1) := by decide +kernel
theorem dX8_bring_1 : decode cX8_bring 1 = .ok (.iconst 0, 1) := by decide +kernel
theorem dX8_bring_2 : decode cX8_bring 2 = .ok (.putfield 39, 3) := by decide +kernel
theorem dX8_bring_5 : decode cX8_bring 5 = .ok (.iload_n 1, 1) := by decide +kernel
theorem dX8_bring_6 : decode cX8_bring 6 = .ok (.ifCond .lt 30, 3) := by decide +kernel
theorem dX8_bring_9 : decode cX8_bring 9 = .ok (.iload_n 1, 1) := by decide +kernel
theorem dX8_bring_10 : decode cX8_bring 10 = .ok (.iconst 2, 1) := by decide +kernel
theorem dX8_bring_11 : decode cX8_bring 11 = .ok (.if_icmp .gt 25, 3) := by decide +kernel
theorem dX8_bring_14 : decode cX8_bring 14 = .ok (.aload_n 0, 1) := by decide +kernel
theorem dX8_bring_15 : decode cX8_bring 15 = .ok (.getfield 16, 3) := by decide +kernel
theorem dX8_bring_18 : decode cX8_bring 18 = .ok (.iload_n 1, 1) := by decide +kernel
theorem dX8_bring_19 : decode cX8_bring 19 = .ok (.ifCond .lt 8, 3) := by decide +kernel
theorem dX8_bring_22 : decode cX8_bring 22 = .ok (.iload_n 1, 1) := by decide +kernel
theorem dX8_bring_23 : decode cX8_bring 23 = .ok (.iconst 2, 1) := by decide +kernel
theorem dX8_bring_24 : decode cX8_bring 24 = .ok (.if_icmp .le 7, 3) := by decide +kernel
theorem dX8_bring_27 : decode cX8_bring 27 = .ok (.iconst 0, 1) := by decide +kernel
theorem dX8_bring_28 : decode cX8_bring 28 = .ok (.goto 4, 3) := by decide +kernel
theorem dX8_bring_31 : decode cX8_bring 31 = .ok (.iload_n 1, 1) := by decide +kernel
theorem dX8_bring_32 : decode cX8_bring 32 = .ok (.baload, 1) := by decide +kernel
theorem dX8_bring_33 : decode cX8_bring 33 = .ok (.ifCond .ne 5, 3) := by decide +kernel
theorem dX8_bring_36 : decode cX8_bring 36 = .ok (.iconst 0, 1) := by decide +kernel
theorem dX8_bring_37 : decode cX8_bring 37 = .ok (.ireturn, 1) := by decide +kernel
theorem dX8_bring_38 : decode cX8_bring 38 = .ok (.iconst 0, 1) := by decide +kernel
theorem dX8_bring_39 : decode cX8_bring 39 = .ok (.istore_n 2, 1) := by decide +kernel
theorem dX8_bring_40 : decode cX8_bring 40 = .ok (.iload_n 2, 1) := by decide +kernel
theorem dX8_bring_41 : decode cX8_bring 41 = .ok (.bipush 53, 2) := by decide +kernel
theorem dX8_bring_43 : decode cX8_bring 43 = .ok (.if_icmp .ge 26, 3) := by decide +kernel
theorem dX8_bring_46 : decode cX8_bring 46 = .ok (.aload_n 0, 1) := by decide +kernel
theorem dX8_bring_47 : decode cX8_bring 47 = .ok (.getfield 7, 3) := by decide +kernel
theorem dX8_bring_50 : decode cX8_bring 50 = .ok (.iload_n 2, 1) := by decide +kernel
theorem dX8_bring_51 : decode cX8_bring 51 = .ok (.aload_n 0, 1) := by decide +kernel
theorem dX8_bring_52 : decode cX8_bring 52 = .ok (.getfield 13, 3) := by decide +kernel
theorem dX8_bring_55 : decode cX8_bring 55 = .ok (.bipush 53, 2) := by decide +kernel
theorem dX8_bring_57 : decode cX8_bring 57 = .ok (.iload_n 1, 1) := by decide +kernel
theorem dX8_bring_58 : decode cX8_bring 58 = .ok (.imul, 1) := by decide +kernel
theorem dX8_bring_59 : decode cX8_bring 59 = .ok (.iload_n 2, 1) := by decide +kernel
theorem dX8_bring_60 : decode cX8_bring 60 = .ok (.iadd, 1) := by decide +kernel
theorem dX8_bring_61 : decode cX8_bring 61 = .ok (.iaload, 1) := by decide +kernel
theorem dX8_bring_62 : decode cX8_bring 62 = .ok (.iastore, 1) := by decide +kernel
theorem dX8_bring_63 : decode cX8_bring 63 = .ok (.iinc 2 1, 3) := by decide +kernel
theorem dX8_bring_66 : decode cX8_bring 66 = .ok (.goto (-26), 3) := by decide +kernel
theorem dX8_bring_69 : decode cX8_bring 69 = .ok (.aload_n 0, 1) := by decide +kernel
theorem dX8_bring_70 : decode cX8_bring 70 = .ok (.getfield 7, 3) := by decide +kernel
theorem dX8_bring_73 : decode cX8_bring 73 = .ok (.iconst 2, 1) := by decide +kernel
theorem dX8_bring_74 : decode cX8_bring 74 = .ok (.aload_n 0, 1) := by decide +kernel
theorem dX8_bring_75 : decode cX8_bring 75 = .ok (.getfield 7, 3) := by decide +kernel
theorem dX8_bring_78 : decode cX8_bring 78 = .ok (.iconst 2, 1) := by decide +kernel
theorem dX8_bring_79 : decode cX8_bring 79 = .ok (.iaload, 1) := by decide +kernel
theorem dX8_bring_80 : decode cX8_bring 80 = .ok (.i2l, 1) := by decide +kernel
theorem dX8_bring_81 : decode cX8_bring 81 = .ok (.aload_n 0, 1) := by decide +kernel
theorem dX8_bring_82 : decode cX8_bring 82 = .ok (.getfield 64, 3) := by decide +kernel
theorem dX8_bring_85 : decode cX8_bring 85 = .ok (.invokestatic 70, 3) := by decide +kernel
theorem dX8_bring_88 : decode cX8_bring 88 = .ok (.iastore, 1) := by decide +kernel
theorem dX8_bring_89 : decode cX8_bring 89 = .ok (.aload_n 0, 1) := by decide +kernel
theorem dX8_bring_90 : decode cX8_bring 90 = .ok (.getfield 7, 3) := by decide +kernel
theorem dX8_bring_93 : decode cX8_bring 93 = .ok (.iconst 3, 1) := by decide +kernel
theorem dX8_bring_94 : decode cX8_bring 94 = .ok (.aload_n 0, 1) := by decide +kernel
theorem dX8_bring_95 : decode cX8_bring 95 = .ok (.getfield 7, 3) := by decide +kernel
theorem dX8_bring_98 : decode cX8_bring 98 = .ok (.iconst 3, 1) := by decide +kernel
theorem dX8_bring_99 : decode cX8_bring 99 = .ok (.iaload, 1) := by decide +kernel
theorem dX8_bring_100 : decode cX8_bring 100 = .ok (.i2l, 1) := by decide +kernel
theorem dX8_bring_101 : decode cX8_bring 101 = .ok (.aload_n 0, 1) := by decide +kernel
theorem dX8_bring_102 : decode cX8_bring 102 = .ok (.getfield 64, 3) := by decide +kernel
theorem dX8_bring_105 : decode cX8_bring 105 = .ok (.invokestatic 70, 3) := by decide +kernel
theorem dX8_bring_108 : decode cX8_bring 108 = .ok (.iastore, 1) := by decide +kernel
theorem dX8_bring_109 : decode cX8_bring 109 = .ok (.aload_n 0, 1) := by decide +kernel
theorem dX8_bring_110 : decode cX8_bring 110 = .ok (.aload_n 0, 1) := by decide +kernel
theorem dX8_bring_111 : decode cX8_bring 111 = .ok (.getfield 7, 3) := by decide +kernel
theorem dX8_bring_114 : decode cX8_bring 114 = .ok (.iconst 0, 1) := by decide +kernel
theorem dX8_bring_115 : decode cX8_bring 115 = .ok (.iaload, 1) := by decide +kernel
theorem dX8_bring_116 : decode cX8_bring 116 = .ok (.i2l, 1) := by decide +kernel
theorem dX8_bring_117 : decode cX8_bring 117 = .ok (.invokevirtual 77, 3) := by decide +kernel
theorem dX8_bring_120 : decode cX8_bring 120 = .ok (.aload_n 0, 1) := by decide +kernel
theorem dX8_bring_121 : decode cX8_bring 121 = .ok (.aload_n 0, 1) := by decide +kernel
theorem dX8_bring_122 : decode cX8_bring 122 = .ok (.getfield 7, 3) := by decide +kernel
theorem dX8_bring_125 : decode cX8_bring 125 = .ok (.iconst 1, 1) := by decide +kernel
theorem dX8_bring_126 : decode cX8_bring 126 = .ok (.iaload, 1) := by decide +kernel
theorem dX8_bring_127 : decode cX8_bring 127 = .ok (.i2l, 1) := by decide +kernel
theorem dX8_bring_128 : decode cX8_bring 128 = .ok (.invokevirtual 85, 3) := by decide +kernel
theorem dX8_bring_131 : decode cX8_bring 131 = .ok (.iconst 1, 1) := by decide +kernel
theorem dX8_bring_132 : decode cX8_bring 132 = .ok (.ireturn, 1) := by decide +kernel
theorem dX8_glyph_0 : decode cX8_glyph 0 = .ok (.aload_n 0, 1) := by decide +kernel
theorem dX8_glyph_1 : decode cX8_glyph 1 = .ok (.iload_n 1, 1) := by decide +kernel
theorem dX8_glyph_2 : decode cX8_glyph 2 = .ok (.ifCond .lt 20, 3) := by decide +kernel
theorem dX8_glyph_5 : decode cX8_glyph 5 = .ok (.iload_n 1, 1) := by decide +kernel
theorem dX8_glyph_6 : decode cX8_glyph 6 = .ok (.aload_n 0, 1) := by decide +kernel
theorem dX8_glyph_7 : decode cX8_glyph 7 = .ok (.getfield 100, 3) := by decide +kernel
theorem dX8_glyph_10 : decode cX8_glyph 10 = .ok (.if_icmp .ge 12, 3) := by decide +kernel
theorem dX8_glyph_13 : decode cX8_glyph 13 = .ok (.iload_n 2, 1) := by decide +kernel
theorem dX8_glyph_14 : decode cX8_glyph 14 = .ok (.ifCond .lt 8, 3) := by decide +kernel
theorem dX8_glyph_17 : decode cX8_glyph 17 = .ok (.iload_n 2, 1) := by decide +kernel
theorem dX8_glyph_18 : decode cX8_glyph 18 = .ok (.iconst 3, 1) := by decide +kernel
theorem dX8_glyph_19 : decode cX8_glyph 19 = .ok (.if_icmp .le 7, 3) := by decide +kernel
theorem dX8_glyph_22 : decode cX8_glyph 22 = .ok (.iconst 1, 1) := by decide +kernel
theorem dX8_glyph_23 : decode cX8_glyph 23 = .ok (.goto 4, 3) := by decide +kernel
theorem dX8_glyph_26 : decode cX8_glyph 26 = .ok (.iconst 0, 1) := by decide +kernel
theorem dX8_glyph_27 : decode cX8_glyph 27 = .ok (.putfield 39, 3) := by decide +kernel
theorem dX8_glyph_30 : decode cX8_glyph 30 = .ok (.aload_n 0, 1) := by decide +kernel
theorem dX8_glyph_31 : decode cX8_glyph 31 = .ok (.getfield 39, 3) := by decide +kernel
theorem dX8_glyph_34 : decode cX8_glyph 34 = .ok (.ifCond .le 7, 3) := by decide +kernel
theorem dX8_glyph_37 : decode cX8_glyph 37 = .ok (.iconst 0, 1) := by decide +kernel
theorem dX8_glyph_38 : decode cX8_glyph 38 = .ok (.goto 13, 3) := by decide +kernel
theorem dX8_glyph_41 : decode cX8_glyph 41 = .ok (.aload_n 0, 1) := by decide +kernel
theorem dX8_glyph_42 : decode cX8_glyph 42 = .ok (.getfield 23, 3) := by decide +kernel
theorem dX8_glyph_45 : decode cX8_glyph 45 = .ok (.iconst 4, 1) := by decide +kernel
theorem dX8_glyph_46 : decode cX8_glyph 46 = .ok (.iload_n 1, 1) := by decide +kernel
theorem dX8_glyph_47 : decode cX8_glyph 47 = .ok (.imul, 1) := by decide +kernel
theorem dX8_glyph_48 : decode cX8_glyph 48 = .ok (.iload_n 2, 1) := by decide +kernel
theorem dX8_glyph_49 : decode cX8_glyph 49 = .ok (.iadd, 1) := by decide +kernel
theorem dX8_glyph_50 : decode cX8_glyph 50 = .ok (.iaload, 1) := by decide +kernel
theorem dX8_glyph_51 : decode cX8_glyph 51 = .ok (.ireturn, 1) := by decide +kernel
theorem dX8_page_0 : decode cX8_page 0 = .ok (.aload_n 0, 1) := by decide +kernel
theorem dX8_page_1 : decode cX8_page 1 = .ok (.iload_n 1, 1) := by decide +kernel
theorem dX8_page_2 : decode cX8_page 2 = .ok (.ifCond .lt 31, 3) := by decide +kernel
theorem dX8_page_5 : decode cX8_page 5 = .ok (.iload_n 1, 1) := by decide +kernel
theorem dX8_page_6 : decode cX8_page 6 = .ok (.aload_n 0, 1) := by decide +kernel
theorem dX8_page_7 : decode cX8_page 7 = .ok (.getfield 94, 3) := by decide +kernel
theorem dX8_page_10 : decode cX8_page 10 = .ok (.if_icmp .ge 23, 3) := by decide +kernel
theorem dX8_page_13 : decode cX8_page 13 = .ok (.iload_n 1, 1) := by decide +kernel
theorem dX8_page_14 : decode cX8_page 14 = .ok (.aload_n 0, 1) := by decide +kernel
theorem dX8_page_15 : decode cX8_page 15 = .ok (.getfield 94, 3) := by decide +kernel
theorem dX8_page_18 : decode cX8_page 18 = .ok (.bipush 40, 2) := by decide +kernel
theorem dX8_page_20 : decode cX8_page 20 = .ok (.isub, 1) := by decide +kernel
theorem dX8_page_21 : decode cX8_page 21 = .ok (.if_icmp .lt 12, 3) := by decide +kernel
theorem dX8_page_24 : decode cX8_page 24 = .ok (.iload_n 2, 1) := by decide +kernel
theorem dX8_page_25 : decode cX8_page 25 = .ok (.ifCond .lt 8, 3) := by decide +kernel
theorem dX8_page_28 : decode cX8_page 28 = .ok (.iload_n 2, 1) := by decide +kernel
theorem dX8_page_29 : decode cX8_page 29 = .ok (.iconst 3, 1) := by decide +kernel
theorem dX8_page_30 : decode cX8_page 30 = .ok (.if_icmp .le 7, 3) := by decide +kernel
theorem dX8_page_33 : decode cX8_page 33 = .ok (.iconst 1, 1) := by decide +kernel
theorem dX8_page_34 : decode cX8_page 34 = .ok (.goto 4, 3) := by decide +kernel
theorem dX8_page_37 : decode cX8_page 37 = .ok (.iconst 0, 1) := by decide +kernel
theorem dX8_page_38 : decode cX8_page 38 = .ok (.putfield 39, 3) := by decide +kernel
theorem dX8_page_41 : decode cX8_page 41 = .ok (.aload_n 0, 1) := by decide +kernel
theorem dX8_page_42 : decode cX8_page 42 = .ok (.getfield 39, 3) := by decide +kernel
theorem dX8_page_45 : decode cX8_page 45 = .ok (.ifCond .le 7, 3) := by decide +kernel
theorem dX8_page_48 : decode cX8_page 48 = .ok (.iconst 0, 1) := by decide +kernel
theorem dX8_page_49 : decode cX8_page 49 = .ok (.goto 16, 3) := by decide +kernel
theorem dX8_page_52 : decode cX8_page 52 = .ok (.aload_n 0, 1) := by decide +kernel
theorem dX8_page_53 : decode cX8_page 53 = .ok (.getfield 26, 3) := by decide +kernel
theorem dX8_page_56 : decode cX8_page 56 = .ok (.iconst 4, 1) := by decide +kernel
theorem dX8_page_57 : decode cX8_page 57 = .ok (.iload_n 1, 1) := by decide +kernel
theorem dX8_page_58 : decode cX8_page 58 = .ok (.bipush 40, 2) := by decide +kernel
theorem dX8_page_60 : decode cX8_page 60 = .ok (.irem, 1) := by decide +kernel
theorem dX8_page_61 : decode cX8_page 61 = .ok (.imul, 1) := by decide +kernel
theorem dX8_page_62 : decode cX8_page 62 = .ok (.iload_n 2, 1) := by decide +kernel
theorem dX8_page_63 : decode cX8_page 63 = .ok (.iadd, 1) := by decide +kernel
theorem dX8_page_64 : decode cX8_page 64 = .ok (.iaload, 1) := by decide +kernel
theorem dX8_page_65 : decode cX8_page 65 = .ok (.ireturn, 1) := by decide +kernel
theorem dX8_other_0 : decode cX8_other 0 = .ok (.aload_n 0, 1) := by decide +kernel
theorem dX8_other_1 : decode cX8_other 1 = .ok (.aload_n 0, 1) := by decide +kernel
theorem dX8_other_2 : decode cX8_other 2 = .ok (.getfield 182, 3) := by decide +kernel
theorem dX8_other_5 : decode cX8_other 5 = .ok (.ifCond .ne 7, 3) := by decide +kernel
theorem dX8_other_8 : decode cX8_other 8 = .ok (.iconst 1, 1) := by decide +kernel
theorem dX8_other_9 : decode cX8_other 9 = .ok (.goto 18, 3) := by decide +kernel
theorem dX8_other_12 : decode cX8_other 12 = .ok (.iload_n 1, 1) := by decide +kernel
theorem dX8_other_13 : decode cX8_other 13 = .ok (.ifCond .lt 9, 3) := by decide +kernel
theorem dX8_other_16 : decode cX8_other 16 = .ok (.iload_n 1, 1) := by decide +kernel
theorem dX8_other_17 : decode cX8_other 17 = .ok (.bipush 6, 2) := by decide +kernel
theorem dX8_other_19 : decode cX8_other 19 = .ok (.if_icmp .le 7, 3) := by decide +kernel
theorem dX8_other_22 : decode cX8_other 22 = .ok (.iconst 2, 1) := by decide +kernel
theorem dX8_other_23 : decode cX8_other 23 = .ok (.goto 4, 3) := by decide +kernel
theorem dX8_other_26 : decode cX8_other 26 = .ok (.iconst 0, 1) := by decide +kernel
theorem dX8_other_27 : decode cX8_other 27 = .ok (.putfield 39, 3) := by decide +kernel
theorem dX8_other_30 : decode cX8_other 30 = .ok (.aload_n 0, 1) := by decide +kernel
theorem dX8_other_31 : decode cX8_other 31 = .ok (.getfield 39, 3) := by decide +kernel
theorem dX8_other_34 : decode cX8_other 34 = .ok (.ifCond .le 7, 3) := by decide +kernel
theorem dX8_other_37 : decode cX8_other 37 = .ok (.iconst 0, 1) := by decide +kernel
theorem dX8_other_38 : decode cX8_other 38 = .ok (.goto 9, 3) := by decide +kernel
theorem dX8_other_41 : decode cX8_other 41 = .ok (.aload_n 0, 1) := by decide +kernel
theorem dX8_other_42 : decode cX8_other 42 = .ok (.getfield 29, 3) := by decide +kernel
theorem dX8_other_45 : decode cX8_other 45 = .ok (.iload_n 1, 1) := by decide +kernel
theorem dX8_other_46 : decode cX8_other 46 = .ok (.iaload, 1) := by decide +kernel
theorem dX8_other_47 : decode cX8_other 47 = .ok (.ireturn, 1) := by decide +kernel
theorem dX8_data_0 : decode cX8_data 0 = .ok (.aload_n 0, 1) := by decide +kernel
theorem dX8_data_1 : decode cX8_data 1 = .ok (.aload_n 0, 1) := by decide +kernel
theorem dX8_data_2 : decode cX8_data 2 = .ok (.getfield 182, 3) := by decide +kernel
theorem dX8_data_5 : decode cX8_data 5 = .ok (.ifCond .ne 7, 3) := by decide +kernel
theorem dX8_data_8 : decode cX8_data 8 = .ok (.iconst 1, 1) := by decide +kernel
theorem dX8_data_9 : decode cX8_data 9 = .ok (.goto 4, 3) := by decide +kernel
theorem dX8_data_12 : decode cX8_data 12 = .ok (.iconst 0, 1) := by decide +kernel
theorem dX8_data_13 : decode cX8_data 13 = .ok (.putfield 39, 3) := by decide +kernel
theorem dX8_data_16 : decode cX8_data 16 = .ok (.lconst 0, 1) := by decide +kernel
theorem dX8_data_17 : decode cX8_data 17 = .ok (.lstore_n 2, 1) := by decide +kernel
theorem dX8_data_18 : decode cX8_data 18 = .ok (.iconst 0, 1) := by decide +kernel
theorem dX8_data_19 : decode cX8_data 19 = .ok (.istore 4, 2) := by decide +kernel
theorem dX8_data_21 : decode cX8_data 21 = .ok (.iload 4, 2) := by decide +kernel
theorem dX8_data_23 : decode cX8_data 23 = .ok (.bipush 8, 2) := by decide +kernel
theorem dX8_data_25 : decode cX8_data 25 = .ok (.if_icmp .ge 91, 3) := by decide +kernel
theorem dX8_data_28 : decode cX8_data 28 = .ok (.aload_n 0, 1) := by decide +kernel
theorem dX8_data_29 : decode cX8_data 29 = .ok (.getfield 39, 3) := by decide +kernel
theorem dX8_data_32 : decode cX8_data 32 = .ok (.ifCond .ne 84, 3) := by decide +kernel
theorem dX8_data_35 : decode cX8_data 35 = .ok (.iload_n 1, 1) := by decide +kernel
theorem dX8_data_36 : decode cX8_data 36 = .ok (.ifCond .lt 30, 3) := by decide +kernel
theorem dX8_data_39 : decode cX8_data 39 = .ok (.iload_n 1, 1) := by decide +kernel
theorem dX8_data_40 : decode cX8_data 40 = .ok (.sipush 512, 3) := by decide +kernel
theorem dX8_data_43 : decode cX8_data 43 = .ok (.if_icmp .ge 23, 3) := by decide +kernel
theorem dX8_data_46 : decode cX8_data 46 = .ok (.bipush 8, 2) := by decide +kernel
theorem dX8_data_48 : decode cX8_data 48 = .ok (.iload_n 1, 1) := by decide +kernel
theorem dX8_data_49 : decode cX8_data 49 = .ok (.imul, 1) := by decide +kernel
theorem dX8_data_50 : decode cX8_data 50 = .ok (.iload 4, 2) := by decide +kernel
theorem dX8_data_52 : decode cX8_data 52 = .ok (.iadd, 1) := by decide +kernel
theorem dX8_data_53 : decode cX8_data 53 = .ok (.aload_n 0, 1) := by decide +kernel
theorem dX8_data_54 : decode cX8_data 54 = .ok (.getfield 29, 3) := by decide +kernel
theorem dX8_data_57 : decode cX8_data 57 = .ok (.iconst 5, 1) := by decide +kernel
theorem dX8_data_58 : decode cX8_data 58 = .ok (.iaload, 1) := by decide +kernel
theorem dX8_data_59 : decode cX8_data 59 = .ok (.if_icmp .ge 7, 3) := by decide +kernel
theorem dX8_data_62 : decode cX8_data 62 = .ok (.iconst 1, 1) := by decide +kernel
theorem dX8_data_63 : decode cX8_data 63 = .ok (.goto 4, 3) := by decide +kernel
theorem dX8_data_66 : decode cX8_data 66 = .ok (.iconst 0, 1) := by decide +kernel
theorem dX8_data_67 : decode cX8_data 67 = .ok (.istore 5, 2) := by decide +kernel
theorem dX8_data_69 : decode cX8_data 69 = .ok (.lload_n 2, 1) := by decide +kernel
theorem dX8_data_70 : decode cX8_data 70 = .ok (.bipush 8, 2) := by decide +kernel
theorem dX8_data_72 : decode cX8_data 72 = .ok (.lshl, 1) := by decide +kernel
theorem dX8_data_73 : decode cX8_data 73 = .ok (.iload 5, 2) := by decide +kernel
theorem dX8_data_75 : decode cX8_data 75 = .ok (.ifCond .eq 31, 3) := by decide +kernel
theorem dX8_data_78 : decode cX8_data 78 = .ok (.aload_n 0, 1) := by decide +kernel
theorem dX8_data_79 : decode cX8_data 79 = .ok (.getfield 32, 3) := by decide +kernel
theorem dX8_data_82 : decode cX8_data 82 = .ok (.iload 5, 2) := by decide +kernel
theorem dX8_data_84 : decode cX8_data 84 = .ok (.ifCond .eq 13, 3) := by decide +kernel
theorem dX8_data_87 : decode cX8_data 87 = .ok (.bipush 8, 2) := by decide +kernel
theorem dX8_data_89 : decode cX8_data 89 = .ok (.iload_n 1, 1) := by decide +kernel
theorem dX8_data_90 : decode cX8_data 90 = .ok (.imul, 1) := by decide +kernel
theorem dX8_data_91 : decode cX8_data 91 = .ok (.iload 4, 2) := by decide +kernel
theorem dX8_data_93 : decode cX8_data 93 = .ok (.iadd, 1) := by decide +kernel
theorem dX8_data_94 : decode cX8_data 94 = .ok (.goto 4, 3) := by decide +kernel
theorem dX8_data_97 : decode cX8_data 97 = .ok (.iconst 0, 1) := by decide +kernel
theorem dX8_data_98 : decode cX8_data 98 = .ok (.baload, 1) := by decide +kernel
theorem dX8_data_99 : decode cX8_data 99 = .ok (.sipush 255, 3) := by decide +kernel
theorem dX8_data_102 : decode cX8_data 102 = .ok (.iand, 1) := by decide +kernel
theorem dX8_data_103 : decode cX8_data 103 = .ok (.goto 4, 3) := by decide +kernel
theorem dX8_data_106 : decode cX8_data 106 = .ok (.iconst 0, 1) := by decide +kernel
theorem dX8_data_107 : decode cX8_data 107 = .ok (.i2l, 1) := by decide +kernel
theorem dX8_data_108 : decode cX8_data 108 = .ok (.lor, 1) := by decide +kernel
theorem dX8_data_109 : decode cX8_data 109 = .ok (.lstore_n 2, 1) := by decide +kernel
theorem dX8_data_110 : decode cX8_data 110 = .ok (.iinc 4 1, 3) := by decide +kernel
theorem dX8_data_113 : decode cX8_data 113 = .ok (.goto (-92), 3) := by decide +kernel
theorem dX8_data_116 : decode cX8_data 116 = .ok (.lload_n 2, 1) := by decide +kernel
theorem dX8_data_117 : decode cX8_data 117 = .ok (.lreturn, 1) := by decide +kernel
theorem dX8_take_0 : decode cX8_take 0 = .ok (.aload_n 0, 1) := by decide +kernel
theorem dX8_take_1 : decode cX8_take 1 = .ok (.iconst 0, 1) := by decide +kernel
theorem dX8_take_2 : decode cX8_take 2 = .ok (.putfield 39, 3) := by decide +kernel
theorem dX8_take_5 : decode cX8_take 5 = .ok (.aload_n 0, 1) := by decide +kernel
theorem dX8_take_6 : decode cX8_take 6 = .ok (.getfield 182, 3) := by decide +kernel
theorem dX8_take_9 : decode cX8_take 9 = .ok (.ifCond .eq 13, 3) := by decide +kernel
theorem dX8_take_12 : decode cX8_take 12 = .ok (.aload_n 0, 1) := by decide +kernel
theorem dX8_take_13 : decode cX8_take 13 = .ok (.getfield 29, 3) := by decide +kernel
theorem dX8_take_16 : decode cX8_take 16 = .ok (.bipush 6, 2) := by decide +kernel
theorem dX8_take_18 : decode cX8_take 18 = .ok (.iaload, 1) := by decide +kernel
theorem dX8_take_19 : decode cX8_take 19 = .ok (.ifCond .le 5, 3) := by decide +kernel
theorem dX8_take_22 : decode cX8_take 22 = .ok (.iconst 0, 1) := by decide +kernel
theorem dX8_take_23 : decode cX8_take 23 = .ok (.ireturn, 1) := by decide +kernel
theorem dX8_take_24 : decode cX8_take 24 = .ok (.aload_n 0, 1) := by decide +kernel
theorem dX8_take_25 : decode cX8_take 25 = .ok (.getfield 29, 3) := by decide +kernel
theorem dX8_take_28 : decode cX8_take 28 = .ok (.iconst 5, 1) := by decide +kernel
theorem dX8_take_29 : decode cX8_take 29 = .ok (.iaload, 1) := by decide +kernel
theorem dX8_take_30 : decode cX8_take 30 = .ok (.istore_n 1, 1) := by decide +kernel
theorem dX8_take_31 : decode cX8_take 31 = .ok (.iload_n 1, 1) := by decide +kernel
theorem dX8_take_32 : decode cX8_take 32 = .ok (.istore_n 2, 1) := by decide +kernel
theorem dX8_take_33 : decode cX8_take 33 = .ok (.iload_n 2, 1) := by decide +kernel
theorem dX8_take_34 : decode cX8_take 34 = .ok (.aload_n 0, 1) := by decide +kernel
theorem dX8_take_35 : decode cX8_take 35 = .ok (.getfield 188, 3) := by decide +kernel
theorem dX8_take_38 : decode cX8_take 38 = .ok (.if_icmp .ge 23, 3) := by decide +kernel
theorem dX8_take_41 : decode cX8_take 41 = .ok (.aload_n 0, 1) := by decide +kernel
theorem dX8_take_42 : decode cX8_take 42 = .ok (.getfield 32, 3) := by decide +kernel
theorem dX8_take_45 : decode cX8_take 45 = .ok (.iload_n 2, 1) := by decide +kernel
theorem dX8_take_46 : decode cX8_take 46 = .ok (.iload_n 1, 1) := by decide +kernel
theorem dX8_take_47 : decode cX8_take 47 = .ok (.isub, 1) := by decide +kernel
theorem dX8_take_48 : decode cX8_take 48 = .ok (.aload_n 0, 1) := by decide +kernel
theorem dX8_take_49 : decode cX8_take 49 = .ok (.getfield 32, 3) := by decide +kernel
theorem dX8_take_52 : decode cX8_take 52 = .ok (.iload_n 2, 1) := by decide +kernel
theorem dX8_take_53 : decode cX8_take 53 = .ok (.baload, 1) := by decide +kernel
theorem dX8_take_54 : decode cX8_take 54 = .ok (.bastore, 1) := by decide +kernel
theorem dX8_take_55 : decode cX8_take 55 = .ok (.iinc 2 1, 3) := by decide +kernel
theorem dX8_take_58 : decode cX8_take 58 = .ok (.goto (-25), 3) := by decide +kernel
theorem dX8_take_61 : decode cX8_take 61 = .ok (.aload_n 0, 1) := by decide +kernel
theorem dX8_take_62 : decode cX8_take 62 = .ok (.dup, 1) := by decide +kernel
theorem dX8_take_63 : decode cX8_take 63 = .ok (.getfield 188, 3) := by decide +kernel
theorem dX8_take_66 : decode cX8_take 66 = .ok (.iload_n 1, 1) := by decide +kernel
theorem dX8_take_67 : decode cX8_take 67 = .ok (.isub, 1) := by decide +kernel
theorem dX8_take_68 : decode cX8_take 68 = .ok (.putfield 188, 3) := by decide +kernel
theorem dX8_take_71 : decode cX8_take 71 = .ok (.aload_n 0, 1) := by decide +kernel
theorem dX8_take_72 : decode cX8_take 72 = .ok (.dup, 1) := by decide +kernel
theorem dX8_take_73 : decode cX8_take 73 = .ok (.getfield 182, 3) := by decide +kernel
theorem dX8_take_76 : decode cX8_take 76 = .ok (.iconst 1, 1) := by decide +kernel
theorem dX8_take_77 : decode cX8_take 77 = .ok (.isub, 1) := by decide +kernel
theorem dX8_take_78 : decode cX8_take 78 = .ok (.putfield 182, 3) := by decide +kernel
theorem dX8_take_81 : decode cX8_take 81 = .ok (.iconst 0, 1) := by decide +kernel
theorem dX8_take_82 : decode cX8_take 82 = .ok (.istore_n 2, 1) := by decide +kernel
theorem dX8_take_83 : decode cX8_take 83 = .ok (.iload_n 2, 1) := by decide +kernel
theorem dX8_take_84 : decode cX8_take 84 = .ok (.bipush 7, 2) := by decide +kernel
theorem dX8_take_86 : decode cX8_take 86 = .ok (.aload_n 0, 1) := by decide +kernel
theorem dX8_take_87 : decode cX8_take 87 = .ok (.getfield 182, 3) := by decide +kernel
theorem dX8_take_90 : decode cX8_take 90 = .ok (.imul, 1) := by decide +kernel
theorem dX8_take_91 : decode cX8_take 91 = .ok (.if_icmp .ge 24, 3) := by decide +kernel
theorem dX8_take_94 : decode cX8_take 94 = .ok (.aload_n 0, 1) := by decide +kernel
theorem dX8_take_95 : decode cX8_take 95 = .ok (.getfield 29, 3) := by decide +kernel
theorem dX8_take_98 : decode cX8_take 98 = .ok (.iload_n 2, 1) := by decide +kernel
theorem dX8_take_99 : decode cX8_take 99 = .ok (.aload_n 0, 1) := by decide +kernel
theorem dX8_take_100 : decode cX8_take 100 = .ok (.getfield 29, 3) := by decide +kernel
theorem dX8_take_103 : decode cX8_take 103 = .ok (.iload_n 2, 1) := by decide +kernel
theorem dX8_take_104 : decode cX8_take 104 = .ok (.bipush 7, 2) := by decide +kernel
theorem dX8_take_106 : decode cX8_take 106 = .ok (.iadd, 1) := by decide +kernel
theorem dX8_take_107 : decode cX8_take 107 = .ok (.iaload, 1) := by decide +kernel
theorem dX8_take_108 : decode cX8_take 108 = .ok (.iastore, 1) := by decide +kernel
theorem dX8_take_109 : decode cX8_take 109 = .ok (.iinc 2 1, 3) := by decide +kernel
theorem dX8_take_112 : decode cX8_take 112 = .ok (.goto (-29), 3) := by decide +kernel
theorem dX8_take_115 : decode cX8_take 115 = .ok (.iconst 1, 1) := by decide +kernel
theorem dX8_take_116 : decode cX8_take 116 = .ok (.ireturn, 1) := by decide +kernel
theorem dX8_place_0 : decode cX8_place 0 = .ok (.aload_n 0, 1) := by decide +kernel
theorem dX8_place_1 : decode cX8_place 1 = .ok (.iload_n 1, 1) := by decide +kernel
theorem dX8_place_2 : decode cX8_place 2 = .ok (.ifCond .lt 14, 3) := by decide +kernel
theorem dX8_place_5 : decode cX8_place 5 = .ok (.iload_n 1, 1) := by decide +kernel
theorem dX8_place_6 : decode cX8_place 6 = .ok (.aload_n 0, 1) := by decide +kernel
theorem dX8_place_7 : decode cX8_place 7 = .ok (.getfield 7, 3) := by decide +kernel
theorem dX8_place_10 : decode cX8_place 10 = .ok (.bipush 12, 2) := by decide +kernel
theorem dX8_place_12 : decode cX8_place 12 = .ok (.iaload, 1) := by decide +kernel
theorem dX8_place_13 : decode cX8_place 13 = .ok (.if_icmp .lt 7, 3) := by decide +kernel
theorem dX8_place_16 : decode cX8_place 16 = .ok (.iconst 1, 1) := by decide +kernel
theorem dX8_place_17 : decode cX8_place 17 = .ok (.goto 4, 3) := by decide +kernel
theorem dX8_place_20 : decode cX8_place 20 = .ok (.iconst 0, 1) := by decide +kernel
theorem dX8_place_21 : decode cX8_place 21 = .ok (.putfield 39, 3) := by decide +kernel
theorem dX8_place_24 : decode cX8_place 24 = .ok (.aload_n 0, 1) := by decide +kernel
theorem dX8_place_25 : decode cX8_place 25 = .ok (.getfield 39, 3) := by decide +kernel
theorem dX8_place_28 : decode cX8_place 28 = .ok (.ifCond .le 7, 3) := by decide +kernel
theorem dX8_place_31 : decode cX8_place 31 = .ok (.iconst 0, 1) := by decide +kernel
theorem dX8_place_32 : decode cX8_place 32 = .ok (.goto 24, 3) := by decide +kernel
theorem dX8_place_35 : decode cX8_place 35 = .ok (.aload_n 0, 1) := by decide +kernel
theorem dX8_place_36 : decode cX8_place 36 = .ok (.getfield 7, 3) := by decide +kernel
theorem dX8_place_39 : decode cX8_place 39 = .ok (.bipush 13, 2) := by decide +kernel
theorem dX8_place_41 : decode cX8_place 41 = .ok (.iconst 2, 1) := by decide +kernel
theorem dX8_place_42 : decode cX8_place 42 = .ok (.iload_n 1, 1) := by decide +kernel
theorem dX8_place_43 : decode cX8_place 43 = .ok (.imul, 1) := by decide +kernel
theorem dX8_place_44 : decode cX8_place 44 = .ok (.iadd, 1) := by decide +kernel
theorem dX8_place_45 : decode cX8_place 45 = .ok (.iload_n 2, 1) := by decide +kernel
theorem dX8_place_46 : decode cX8_place 46 = .ok (.ifCond .eq 7, 3) := by decide +kernel
theorem dX8_place_49 : decode cX8_place 49 = .ok (.iconst 1, 1) := by decide +kernel
theorem dX8_place_50 : decode cX8_place 50 = .ok (.goto 4, 3) := by decide +kernel
theorem dX8_place_53 : decode cX8_place 53 = .ok (.iconst 0, 1) := by decide +kernel
theorem dX8_place_54 : decode cX8_place 54 = .ok (.iadd, 1) := by decide +kernel
theorem dX8_place_55 : decode cX8_place 55 = .ok (.iaload, 1) := by decide +kernel
theorem dX8_place_56 : decode cX8_place 56 = .ok (.ireturn, 1) := by decide +kernel
theorem dX8_look_0 : decode cX8_look 0 = .ok (.aload_n 0, 1) := by decide +kernel
theorem dX8_look_1 : decode cX8_look 1 = .ok (.iconst 0, 1) := by decide +kernel
theorem dX8_look_2 : decode cX8_look 2 = .ok (.putfield 39, 3) := by decide +kernel
theorem dX8_look_5 : decode cX8_look 5 = .ok (.iload_n 1, 1) := by decide +kernel
theorem dX8_look_6 : decode cX8_look 6 = .ok (.ifCond .lt 16, 3) := by decide +kernel
theorem dX8_look_9 : decode cX8_look 9 = .ok (.iload_n 1, 1) := by decide +kernel
theorem dX8_look_10 : decode cX8_look 10 = .ok (.bipush 8, 2) := by decide +kernel
theorem dX8_look_12 : decode cX8_look 12 = .ok (.if_icmp .ge 10, 3) := by decide +kernel
theorem dX8_look_15 : decode cX8_look 15 = .ok (.aload_n 0, 1) := by decide +kernel
theorem dX8_look_16 : decode cX8_look 16 = .ok (.getfield 7, 3) := by decide +kernel
theorem dX8_look_19 : decode cX8_look 19 = .ok (.iload_n 1, 1) := by decide +kernel
theorem dX8_look_20 : decode cX8_look 20 = .ok (.iaload, 1) := by decide +kernel
theorem dX8_look_21 : decode cX8_look 21 = .ok (.ireturn, 1) := by decide +kernel
theorem dX8_look_22 : decode cX8_look 22 = .ok (.iload_n 1, 1) := by decide +kernel
theorem dX8_look_23 : decode cX8_look 23 = .ok (.tableswitch 201 8 24 #[81, 86, 91, 96, 101, 101, 101, 110, 115, 123, 131, 136, 153, 158, 163, 168, 181], 81) := by decide +kernel
theorem dX8_look_104 : decode cX8_look 104 = .ok (.aload_n 0, 1) := by decide +kernel
theorem dX8_look_105 : decode cX8_look 105 = .ok (.getfield 64, 3) := by decide +kernel
theorem dX8_look_108 : decode cX8_look 108 = .ok (.ireturn, 1) := by decide +kernel
theorem dX8_look_109 : decode cX8_look 109 = .ok (.aload_n 0, 1) := by decide +kernel
theorem dX8_look_110 : decode cX8_look 110 = .ok (.getfield 67, 3) := by decide +kernel
theorem dX8_look_113 : decode cX8_look 113 = .ok (.ireturn, 1) := by decide +kernel
theorem dX8_look_114 : decode cX8_look 114 = .ok (.aload_n 0, 1) := by decide +kernel
theorem dX8_look_115 : decode cX8_look 115 = .ok (.getfield 54, 3) := by decide +kernel
theorem dX8_look_118 : decode cX8_look 118 = .ok (.ireturn, 1) := by decide +kernel
theorem dX8_look_119 : decode cX8_look 119 = .ok (.aload_n 0, 1) := by decide +kernel
theorem dX8_look_120 : decode cX8_look 120 = .ok (.getfield 51, 3) := by decide +kernel
theorem dX8_look_123 : decode cX8_look 123 = .ok (.ireturn, 1) := by decide +kernel
theorem dX8_look_124 : decode cX8_look 124 = .ok (.aload_n 0, 1) := by decide +kernel
theorem dX8_look_125 : decode cX8_look 125 = .ok (.getfield 7, 3) := by decide +kernel
theorem dX8_look_128 : decode cX8_look 128 = .ok (.iload_n 1, 1) := by decide +kernel
theorem dX8_look_129 : decode cX8_look 129 = .ok (.iconst 4, 1) := by decide +kernel
theorem dX8_look_130 : decode cX8_look 130 = .ok (.isub, 1) := by decide +kernel
theorem dX8_look_131 : decode cX8_look 131 = .ok (.iaload, 1) := by decide +kernel
theorem dX8_look_132 : decode cX8_look 132 = .ok (.ireturn, 1) := by decide +kernel
theorem dX8_look_133 : decode cX8_look 133 = .ok (.aload_n 0, 1) := by decide +kernel
theorem dX8_look_134 : decode cX8_look 134 = .ok (.getfield 88, 3) := by decide +kernel
theorem dX8_look_137 : decode cX8_look 137 = .ok (.ireturn, 1) := by decide +kernel
theorem dX8_look_138 : decode cX8_look 138 = .ok (.aload_n 0, 1) := by decide +kernel
theorem dX8_look_139 : decode cX8_look 139 = .ok (.getfield 7, 3) := by decide +kernel
theorem dX8_look_142 : decode cX8_look 142 = .ok (.bipush 11, 2) := by decide +kernel
theorem dX8_look_144 : decode cX8_look 144 = .ok (.iaload, 1) := by decide +kernel
theorem dX8_look_145 : decode cX8_look 145 = .ok (.ireturn, 1) := by decide +kernel
theorem dX8_look_146 : decode cX8_look 146 = .ok (.aload_n 0, 1) := by decide +kernel
theorem dX8_look_147 : decode cX8_look 147 = .ok (.getfield 7, 3) := by decide +kernel
theorem dX8_look_150 : decode cX8_look 150 = .ok (.bipush 12, 2) := by decide +kernel
theorem dX8_look_152 : decode cX8_look 152 = .ok (.iaload, 1) := by decide +kernel
theorem dX8_look_153 : decode cX8_look 153 = .ok (.ireturn, 1) := by decide +kernel
theorem dX8_look_154 : decode cX8_look 154 = .ok (.aload_n 0, 1) := by decide +kernel
theorem dX8_look_155 : decode cX8_look 155 = .ok (.getfield 100, 3) := by decide +kernel
theorem dX8_look_158 : decode cX8_look 158 = .ok (.ireturn, 1) := by decide +kernel
theorem dX8_look_159 : decode cX8_look 159 = .ok (.aload_n 0, 1) := by decide +kernel
theorem dX8_look_160 : decode cX8_look 160 = .ok (.getfield 97, 3) := by decide +kernel
theorem dX8_look_163 : decode cX8_look 163 = .ok (.aload_n 0, 1) := by decide +kernel
theorem dX8_look_164 : decode cX8_look 164 = .ok (.getfield 100, 3) := by decide +kernel
theorem dX8_look_167 : decode cX8_look 167 = .ok (.if_icmp .le 7, 3) := by decide +kernel
theorem dX8_look_170 : decode cX8_look 170 = .ok (.iconst 1, 1) := by decide +kernel
theorem dX8_look_171 : decode cX8_look 171 = .ok (.goto 4, 3) := by decide +kernel
theorem dX8_look_174 : decode cX8_look 174 = .ok (.iconst 0, 1) := by decide +kernel
theorem dX8_look_175 : decode cX8_look 175 = .ok (.ireturn, 1) := by decide +kernel
theorem dX8_look_176 : decode cX8_look 176 = .ok (.aload_n 0, 1) := by decide +kernel
theorem dX8_look_177 : decode cX8_look 177 = .ok (.getfield 94, 3) := by decide +kernel
theorem dX8_look_180 : decode cX8_look 180 = .ok (.ireturn, 1) := by decide +kernel
theorem dX8_look_181 : decode cX8_look 181 = .ok (.aload_n 0, 1) := by decide +kernel
theorem dX8_look_182 : decode cX8_look 182 = .ok (.getfield 182, 3) := by decide +kernel
theorem dX8_look_185 : decode cX8_look 185 = .ok (.ireturn, 1) := by decide +kernel
theorem dX8_look_186 : decode cX8_look 186 = .ok (.aload_n 0, 1) := by decide +kernel
theorem dX8_look_187 : decode cX8_look 187 = .ok (.getfield 191, 3) := by decide +kernel
theorem dX8_look_190 : decode cX8_look 190 = .ok (.ireturn, 1) := by decide +kernel
theorem dX8_look_191 : decode cX8_look 191 = .ok (.aload_n 0, 1) := by decide +kernel
theorem dX8_look_192 : decode cX8_look 192 = .ok (.getfield 143, 3) := by decide +kernel
theorem dX8_look_195 : decode cX8_look 195 = .ok (.ifCond .le 7, 3) := by decide +kernel
theorem dX8_look_198 : decode cX8_look 198 = .ok (.iconst 1, 1) := by decide +kernel
theorem dX8_look_199 : decode cX8_look 199 = .ok (.goto 4, 3) := by decide +kernel
theorem dX8_look_202 : decode cX8_look 202 = .ok (.iconst 0, 1) := by decide +kernel
theorem dX8_look_203 : decode cX8_look 203 = .ok (.ireturn, 1) := by decide +kernel
theorem dX8_look_204 : decode cX8_look 204 = .ok (.aload_n 0, 1) := by decide +kernel
theorem dX8_look_205 : decode cX8_look 205 = .ok (.getfield 97, 3) := by decide +kernel
theorem dX8_look_208 : decode cX8_look 208 = .ok (.ifCond .gt 10, 3) := by decide +kernel
theorem dX8_look_211 : decode cX8_look 211 = .ok (.aload_n 0, 1) := by decide +kernel
theorem dX8_look_212 : decode cX8_look 212 = .ok (.getfield 103, 3) := by decide +kernel
theorem dX8_look_215 : decode cX8_look 215 = .ok (.ifCond .eq 7, 3) := by decide +kernel
theorem dX8_look_218 : decode cX8_look 218 = .ok (.iconst 1, 1) := by decide +kernel
theorem dX8_look_219 : decode cX8_look 219 = .ok (.goto 4, 3) := by decide +kernel
theorem dX8_look_222 : decode cX8_look 222 = .ok (.iconst 0, 1) := by decide +kernel
theorem dX8_look_223 : decode cX8_look 223 = .ok (.ireturn, 1) := by decide +kernel
theorem dX8_look_224 : decode cX8_look 224 = .ok (.iconst (-1), 1) := by decide +kernel
theorem dX8_look_225 : decode cX8_look 225 = .ok (.ireturn, 1) := by decide +kernel
end
section
theorem dL_glyph_0 : decode cL_glyph 0 = .ok (.aload_n 3, 1) := by decide +kernel
theorem dL_glyph_1 : decode cL_glyph 1 = .ok (.iconst 0, 1) := by decide +kernel
theorem dL_glyph_2 : decode cL_glyph 2 = .ok (.aload_n 0, 1) := by decide +kernel
theorem dL_glyph_3 : decode cL_glyph 3 = .ok (.iload_n 1, 1) := by decide +kernel
theorem dL_glyph_4 : decode cL_glyph 4 = .ok (.iload_n 2, 1) := by decide +kernel
theorem dL_glyph_5 : decode cL_glyph 5 = .ok (.invokevirtual 7, 3) := by decide +kernel
theorem dL_glyph_8 : decode cL_glyph 8 = .ok (.i2l, 1) := by decide +kernel
theorem dL_glyph_9 : decode cL_glyph 9 = .ok (.lastore, 1) := by decide +kernel
theorem dL_glyph_10 : decode cL_glyph 10 = .ok (.goto 7, 3) := by decide +kernel
theorem dL_glyph_13 : decode cL_glyph 13 = .ok (.astore 4, 2) := by decide +kernel
theorem dL_glyph_15 : decode cL_glyph 15 = .ok (.iconst 1, 1) := by decide +kernel
theorem dL_glyph_16 : decode cL_glyph 16 = .ok (.ireturn, 1) := by decide +kernel
theorem dL_glyph_17 : decode cL_glyph 17 = .ok (.iconst 0, 1) := by decide +kernel
theorem dL_glyph_18 : decode cL_glyph 18 = .ok (.ireturn, 1) := by decide +kernel
theorem dL_page_0 : decode cL_page 0 = .ok (.aload_n 3, 1) := by decide +kernel
theorem dL_page_1 : decode cL_page 1 = .ok (.iconst 0, 1) := by decide +kernel
theorem dL_page_2 : decode cL_page 2 = .ok (.aload_n 0, 1) := by decide +kernel
theorem dL_page_3 : decode cL_page 3 = .ok (.iload_n 1, 1) := by decide +kernel
theorem dL_page_4 : decode cL_page 4 = .ok (.iload_n 2, 1) := by decide +kernel
theorem dL_page_5 : decode cL_page 5 = .ok (.invokevirtual 15, 3) := by decide +kernel
theorem dL_page_8 : decode cL_page 8 = .ok (.i2l, 1) := by decide +kernel
theorem dL_page_9 : decode cL_page 9 = .ok (.lastore, 1) := by decide +kernel
theorem dL_page_10 : decode cL_page 10 = .ok (.goto 7, 3) := by decide +kernel
theorem dL_page_13 : decode cL_page 13 = .ok (.astore 4, 2) := by decide +kernel
theorem dL_page_15 : decode cL_page 15 = .ok (.iconst 1, 1) := by decide +kernel
theorem dL_page_16 : decode cL_page 16 = .ok (.ireturn, 1) := by decide +kernel
theorem dL_page_17 : decode cL_page 17 = .ok (.iconst 0, 1) := by decide +kernel
theorem dL_page_18 : decode cL_page 18 = .ok (.ireturn, 1) := by decide +kernel
theorem dL_other_0 : decode cL_other 0 = .ok (.aload_n 2, 1) := by decide +kernel
theorem dL_other_1 : decode cL_other 1 = .ok (.iconst 0, 1) := by decide +kernel
theorem dL_other_2 : decode cL_other 2 = .ok (.aload_n 0, 1) := by decide +kernel
theorem dL_other_3 : decode cL_other 3 = .ok (.iload_n 1, 1) := by decide +kernel
theorem dL_other_4 : decode cL_other 4 = .ok (.invokevirtual 18, 3) := by decide +kernel
theorem dL_other_7 : decode cL_other 7 = .ok (.i2l, 1) := by decide +kernel
theorem dL_other_8 : decode cL_other 8 = .ok (.lastore, 1) := by decide +kernel
theorem dL_other_9 : decode cL_other 9 = .ok (.goto 9, 3) := by decide +kernel
theorem dL_other_12 : decode cL_other 12 = .ok (.astore_n 3, 1) := by decide +kernel
theorem dL_other_13 : decode cL_other 13 = .ok (.iconst 1, 1) := by decide +kernel
theorem dL_other_14 : decode cL_other 14 = .ok (.ireturn, 1) := by decide +kernel
theorem dL_other_15 : decode cL_other 15 = .ok (.astore_n 3, 1) := by decide +kernel
theorem dL_other_16 : decode cL_other 16 = .ok (.iconst 2, 1) := by decide +kernel
theorem dL_other_17 : decode cL_other 17 = .ok (.ireturn, 1) := by decide +kernel
theorem dL_other_18 : decode cL_other 18 = .ok (.iconst 0, 1) := by decide +kernel
theorem dL_other_19 : decode cL_other 19 = .ok (.ireturn, 1) := by decide +kernel
theorem dL_data_0 : decode cL_data 0 = .ok (.aload_n 2, 1) := by decide +kernel
theorem dL_data_1 : decode cL_data 1 = .ok (.iconst 0, 1) := by decide +kernel
theorem dL_data_2 : decode cL_data 2 = .ok (.aload_n 0, 1) := by decide +kernel
theorem dL_data_3 : decode cL_data 3 = .ok (.iload_n 1, 1) := by decide +kernel
theorem dL_data_4 : decode cL_data 4 = .ok (.invokevirtual 24, 3) := by decide +kernel
theorem dL_data_7 : decode cL_data 7 = .ok (.lastore, 1) := by decide +kernel
theorem dL_data_8 : decode cL_data 8 = .ok (.goto 6, 3) := by decide +kernel
theorem dL_data_11 : decode cL_data 11 = .ok (.astore_n 3, 1) := by decide +kernel
theorem dL_data_12 : decode cL_data 12 = .ok (.iconst 1, 1) := by decide +kernel
theorem dL_data_13 : decode cL_data 13 = .ok (.ireturn, 1) := by decide +kernel
theorem dL_data_14 : decode cL_data 14 = .ok (.iconst 0, 1) := by decide +kernel
theorem dL_data_15 : decode cL_data 15 = .ok (.ireturn, 1) := by decide +kernel
theorem dL_place_0 : decode cL_place 0 = .ok (.aload_n 3, 1) := by decide +kernel
theorem dL_place_1 : decode cL_place 1 = .ok (.iconst 0, 1) := by decide +kernel
theorem dL_place_2 : decode cL_place 2 = .ok (.aload_n 0, 1) := by decide +kernel
theorem dL_place_3 : decode cL_place 3 = .ok (.iload_n 1, 1) := by decide +kernel
theorem dL_place_4 : decode cL_place 4 = .ok (.iload_n 2, 1) := by decide +kernel
theorem dL_place_5 : decode cL_place 5 = .ok (.invokevirtual 28, 3) := by decide +kernel
theorem dL_place_8 : decode cL_place 8 = .ok (.i2l, 1) := by decide +kernel
theorem dL_place_9 : decode cL_place 9 = .ok (.lastore, 1) := by decide +kernel
theorem dL_place_10 : decode cL_place 10 = .ok (.goto 7, 3) := by decide +kernel
theorem dL_place_13 : decode cL_place 13 = .ok (.astore 4, 2) := by decide +kernel
theorem dL_place_15 : decode cL_place 15 = .ok (.iconst 1, 1) := by decide +kernel
theorem dL_place_16 : decode cL_place 16 = .ok (.ireturn, 1) := by decide +kernel
theorem dL_place_17 : decode cL_place 17 = .ok (.iconst 0, 1) := by decide +kernel
theorem dL_place_18 : decode cL_place 18 = .ok (.ireturn, 1) := by decide +kernel
theorem dL_law_0 : decode cL_law 0 = .ok (.new 8, 3) := by decide +kernel
theorem dL_law_3 : decode cL_law 3 = .ok (.dup, 1) := by decide +kernel
theorem dL_law_4 : decode cL_law 4 = .ok (.invokespecial 32, 3) := by decide +kernel
theorem dL_law_7 : decode cL_law 7 = .ok (.astore_n 1, 1) := by decide +kernel
theorem dL_law_8 : decode cL_law 8 = .ok (.new 33, 3) := by decide +kernel
theorem dL_law_11 : decode cL_law 11 = .ok (.dup, 1) := by decide +kernel
theorem dL_law_12 : decode cL_law 12 = .ok (.invokespecial 35, 3) := by decide +kernel
theorem dL_law_15 : decode cL_law 15 = .ok (.astore_n 2, 1) := by decide +kernel
theorem dL_law_16 : decode cL_law 16 = .ok (.iconst 1, 1) := by decide +kernel
theorem dL_law_17 : decode cL_law 17 = .ok (.newarray .long, 2) := by decide +kernel
theorem dL_law_19 : decode cL_law 19 = .ok (.astore_n 3, 1) := by decide +kernel
theorem dL_law_20 : decode cL_law 20 = .ok (.iconst 0, 1) := by decide +kernel
theorem dL_law_21 : decode cL_law 21 = .ok (.istore 4, 2) := by decide +kernel
theorem dL_law_23 : decode cL_law 23 = .ok (.iload 4, 2) := by decide +kernel
theorem dL_law_25 : decode cL_law 25 = .ok (.aload_n 0, 1) := by decide +kernel
theorem dL_law_26 : decode cL_law 26 = .ok (.arraylength, 1) := by decide +kernel
theorem dL_law_27 : decode cL_law 27 = .ok (.iconst 4, 1) := by decide +kernel
theorem dL_law_28 : decode cL_law 28 = .ok (.isub, 1) := by decide +kernel
theorem dL_law_29 : decode cL_law 29 = .ok (.if_icmp .gt 664, 3) := by decide +kernel
theorem dL_law_32 : decode cL_law 32 = .ok (.aload_n 0, 1) := by decide +kernel
theorem dL_law_33 : decode cL_law 33 = .ok (.iload 4, 2) := by decide +kernel
theorem dL_law_35 : decode cL_law 35 = .ok (.iaload, 1) := by decide +kernel
theorem dL_law_36 : decode cL_law 36 = .ok (.bipush 15, 2) := by decide +kernel
theorem dL_law_38 : decode cL_law 38 = .ok (.iand, 1) := by decide +kernel
theorem dL_law_39 : decode cL_law 39 = .ok (.tableswitch 648 0 12 #[65, 134, 183, 194, 229, 254, 279, 347, 415, 471, 526, 539, 623], 65) := by decide +kernel
theorem dL_law_104 : decode cL_law 104 = .ok (.aload_n 1, 1) := by decide +kernel
theorem dL_law_105 : decode cL_law 105 = .ok (.aload_n 0, 1) := by decide +kernel
theorem dL_law_106 : decode cL_law 106 = .ok (.iload 4, 2) := by decide +kernel
theorem dL_law_108 : decode cL_law 108 = .ok (.iconst 1, 1) := by decide +kernel
theorem dL_law_109 : decode cL_law 109 = .ok (.iadd, 1) := by decide +kernel
theorem dL_law_110 : decode cL_law 110 = .ok (.iaload, 1) := by decide +kernel
theorem dL_law_111 : decode cL_law 111 = .ok (.i2l, 1) := by decide +kernel
theorem dL_law_112 : decode cL_law 112 = .ok (.bipush 32, 2) := by decide +kernel
theorem dL_law_114 : decode cL_law 114 = .ok (.lshl, 1) := by decide +kernel
theorem dL_law_115 : decode cL_law 115 = .ok (.aload_n 0, 1) := by decide +kernel
theorem dL_law_116 : decode cL_law 116 = .ok (.iload 4, 2) := by decide +kernel
theorem dL_law_118 : decode cL_law 118 = .ok (.iconst 2, 1) := by decide +kernel
theorem dL_law_119 : decode cL_law 119 = .ok (.iadd, 1) := by decide +kernel
theorem dL_law_120 : decode cL_law 120 = .ok (.iaload, 1) := by decide +kernel
theorem dL_law_121 : decode cL_law 121 = .ok (.i2l, 1) := by decide +kernel
theorem dL_law_122 : decode cL_law 122 = .ok (.ldc2_w 36, 3) := by decide +kernel
theorem dL_law_125 : decode cL_law 125 = .ok (.land, 1) := by decide +kernel
theorem dL_law_126 : decode cL_law 126 = .ok (.lor, 1) := by decide +kernel
theorem dL_law_127 : decode cL_law 127 = .ok (.aload_n 0, 1) := by decide +kernel
theorem dL_law_128 : decode cL_law 128 = .ok (.iload 4, 2) := by decide +kernel
theorem dL_law_130 : decode cL_law 130 = .ok (.iconst 3, 1) := by decide +kernel
theorem dL_law_131 : decode cL_law 131 = .ok (.iadd, 1) := by decide +kernel
theorem dL_law_132 : decode cL_law 132 = .ok (.iaload, 1) := by decide +kernel
theorem dL_law_133 : decode cL_law 133 = .ok (.invokevirtual 38, 3) := by decide +kernel
theorem dL_law_136 : decode cL_law 136 = .ok (.aload_n 2, 1) := by decide +kernel
theorem dL_law_137 : decode cL_law 137 = .ok (.aload_n 0, 1) := by decide +kernel
theorem dL_law_138 : decode cL_law 138 = .ok (.iload 4, 2) := by decide +kernel
theorem dL_law_140 : decode cL_law 140 = .ok (.iconst 1, 1) := by decide +kernel
theorem dL_law_141 : decode cL_law 141 = .ok (.iadd, 1) := by decide +kernel
theorem dL_law_142 : decode cL_law 142 = .ok (.iaload, 1) := by decide +kernel
theorem dL_law_143 : decode cL_law 143 = .ok (.i2l, 1) := by decide +kernel
theorem dL_law_144 : decode cL_law 144 = .ok (.bipush 32, 2) := by decide +kernel
theorem dL_law_146 : decode cL_law 146 = .ok (.lshl, 1) := by decide +kernel
theorem dL_law_147 : decode cL_law 147 = .ok (.aload_n 0, 1) := by decide +kernel
theorem dL_law_148 : decode cL_law 148 = .ok (.iload 4, 2) := by decide +kernel
theorem dL_law_150 : decode cL_law 150 = .ok (.iconst 2, 1) := by decide +kernel
theorem dL_law_151 : decode cL_law 151 = .ok (.iadd, 1) := by decide +kernel
theorem dL_law_152 : decode cL_law 152 = .ok (.iaload, 1) := by decide +kernel
theorem dL_law_153 : decode cL_law 153 = .ok (.i2l, 1) := by decide +kernel
theorem dL_law_154 : decode cL_law 154 = .ok (.ldc2_w 36, 3) := by decide +kernel
theorem dL_law_157 : decode cL_law 157 = .ok (.land, 1) := by decide +kernel
theorem dL_law_158 : decode cL_law 158 = .ok (.lor, 1) := by decide +kernel
theorem dL_law_159 : decode cL_law 159 = .ok (.aload_n 0, 1) := by decide +kernel
theorem dL_law_160 : decode cL_law 160 = .ok (.iload 4, 2) := by decide +kernel
theorem dL_law_162 : decode cL_law 162 = .ok (.iconst 3, 1) := by decide +kernel
theorem dL_law_163 : decode cL_law 163 = .ok (.iadd, 1) := by decide +kernel
theorem dL_law_164 : decode cL_law 164 = .ok (.iaload, 1) := by decide +kernel
theorem dL_law_165 : decode cL_law 165 = .ok (.invokevirtual 42, 3) := by decide +kernel
theorem dL_law_168 : decode cL_law 168 = .ok (.if_icmp .eq 519, 3) := by decide +kernel
theorem dL_law_171 : decode cL_law 171 = .ok (.iconst 0, 1) := by decide +kernel
theorem dL_law_172 : decode cL_law 172 = .ok (.ireturn, 1) := by decide +kernel
theorem dL_law_173 : decode cL_law 173 = .ok (.aload_n 1, 1) := by decide +kernel
theorem dL_law_174 : decode cL_law 174 = .ok (.aload_n 0, 1) := by decide +kernel
theorem dL_law_175 : decode cL_law 175 = .ok (.iload 4, 2) := by decide +kernel
theorem dL_law_177 : decode cL_law 177 = .ok (.iconst 1, 1) := by decide +kernel
theorem dL_law_178 : decode cL_law 178 = .ok (.iadd, 1) := by decide +kernel
theorem dL_law_179 : decode cL_law 179 = .ok (.iaload, 1) := by decide +kernel
theorem dL_law_180 : decode cL_law 180 = .ok (.aload_n 0, 1) := by decide +kernel
theorem dL_law_181 : decode cL_law 181 = .ok (.iload 4, 2) := by decide +kernel
theorem dL_law_183 : decode cL_law 183 = .ok (.iconst 2, 1) := by decide +kernel
theorem dL_law_184 : decode cL_law 184 = .ok (.iadd, 1) := by decide +kernel
theorem dL_law_185 : decode cL_law 185 = .ok (.iaload, 1) := by decide +kernel
theorem dL_law_186 : decode cL_law 186 = .ok (.aload_n 0, 1) := by decide +kernel
theorem dL_law_187 : decode cL_law 187 = .ok (.iload 4, 2) := by decide +kernel
theorem dL_law_189 : decode cL_law 189 = .ok (.iconst 3, 1) := by decide +kernel
theorem dL_law_190 : decode cL_law 190 = .ok (.iadd, 1) := by decide +kernel
theorem dL_law_191 : decode cL_law 191 = .ok (.iaload, 1) := by decide +kernel
theorem dL_law_192 : decode cL_law 192 = .ok (.invokevirtual 43, 3) := by decide +kernel
theorem dL_law_195 : decode cL_law 195 = .ok (.aload_n 2, 1) := by decide +kernel
theorem dL_law_196 : decode cL_law 196 = .ok (.aload_n 0, 1) := by decide +kernel
theorem dL_law_197 : decode cL_law 197 = .ok (.iload 4, 2) := by decide +kernel
theorem dL_law_199 : decode cL_law 199 = .ok (.iconst 1, 1) := by decide +kernel
theorem dL_law_200 : decode cL_law 200 = .ok (.iadd, 1) := by decide +kernel
theorem dL_law_201 : decode cL_law 201 = .ok (.iaload, 1) := by decide +kernel
theorem dL_law_202 : decode cL_law 202 = .ok (.aload_n 0, 1) := by decide +kernel
theorem dL_law_203 : decode cL_law 203 = .ok (.iload 4, 2) := by decide +kernel
theorem dL_law_205 : decode cL_law 205 = .ok (.iconst 2, 1) := by decide +kernel
theorem dL_law_206 : decode cL_law 206 = .ok (.iadd, 1) := by decide +kernel
theorem dL_law_207 : decode cL_law 207 = .ok (.iaload, 1) := by decide +kernel
theorem dL_law_208 : decode cL_law 208 = .ok (.aload_n 0, 1) := by decide +kernel
theorem dL_law_209 : decode cL_law 209 = .ok (.iload 4, 2) := by decide +kernel
theorem dL_law_211 : decode cL_law 211 = .ok (.iconst 3, 1) := by decide +kernel
theorem dL_law_212 : decode cL_law 212 = .ok (.iadd, 1) := by decide +kernel
theorem dL_law_213 : decode cL_law 213 = .ok (.iaload, 1) := by decide +kernel
theorem dL_law_214 : decode cL_law 214 = .ok (.invokevirtual 47, 3) := by decide +kernel
theorem dL_law_217 : decode cL_law 217 = .ok (.if_icmp .eq 470, 3) := by decide +kernel
theorem dL_law_220 : decode cL_law 220 = .ok (.iconst 0, 1) := by decide +kernel
theorem dL_law_221 : decode cL_law 221 = .ok (.ireturn, 1) := by decide +kernel
theorem dL_law_222 : decode cL_law 222 = .ok (.aload_n 1, 1) := by decide +kernel
theorem dL_law_223 : decode cL_law 223 = .ok (.invokevirtual 48, 3) := by decide +kernel
theorem dL_law_226 : decode cL_law 226 = .ok (.aload_n 2, 1) := by decide +kernel
theorem dL_law_227 : decode cL_law 227 = .ok (.invokevirtual 51, 3) := by decide +kernel
theorem dL_law_230 : decode cL_law 230 = .ok (.goto 457, 3) := by decide +kernel
theorem dL_law_233 : decode cL_law 233 = .ok (.aload_n 1, 1) := by decide +kernel
theorem dL_law_234 : decode cL_law 234 = .ok (.aload_n 0, 1) := by decide +kernel
theorem dL_law_235 : decode cL_law 235 = .ok (.iload 4, 2) := by decide +kernel
theorem dL_law_237 : decode cL_law 237 = .ok (.iconst 1, 1) := by decide +kernel
theorem dL_law_238 : decode cL_law 238 = .ok (.iadd, 1) := by decide +kernel
theorem dL_law_239 : decode cL_law 239 = .ok (.iaload, 1) := by decide +kernel
theorem dL_law_240 : decode cL_law 240 = .ok (.aload_n 0, 1) := by decide +kernel
theorem dL_law_241 : decode cL_law 241 = .ok (.iload 4, 2) := by decide +kernel
theorem dL_law_243 : decode cL_law 243 = .ok (.iconst 2, 1) := by decide +kernel
theorem dL_law_244 : decode cL_law 244 = .ok (.iadd, 1) := by decide +kernel
theorem dL_law_245 : decode cL_law 245 = .ok (.iaload, 1) := by decide +kernel
theorem dL_law_246 : decode cL_law 246 = .ok (.invokevirtual 52, 3) := by decide +kernel
theorem dL_law_249 : decode cL_law 249 = .ok (.aload_n 2, 1) := by decide +kernel
theorem dL_law_250 : decode cL_law 250 = .ok (.aload_n 0, 1) := by decide +kernel
theorem dL_law_251 : decode cL_law 251 = .ok (.iload 4, 2) := by decide +kernel
theorem dL_law_253 : decode cL_law 253 = .ok (.iconst 1, 1) := by decide +kernel
theorem dL_law_254 : decode cL_law 254 = .ok (.iadd, 1) := by decide +kernel
theorem dL_law_255 : decode cL_law 255 = .ok (.iaload, 1) := by decide +kernel
theorem dL_law_256 : decode cL_law 256 = .ok (.aload_n 0, 1) := by decide +kernel
theorem dL_law_257 : decode cL_law 257 = .ok (.iload 4, 2) := by decide +kernel
theorem dL_law_259 : decode cL_law 259 = .ok (.iconst 2, 1) := by decide +kernel
theorem dL_law_260 : decode cL_law 260 = .ok (.iadd, 1) := by decide +kernel
theorem dL_law_261 : decode cL_law 261 = .ok (.iaload, 1) := by decide +kernel
theorem dL_law_262 : decode cL_law 262 = .ok (.invokevirtual 56, 3) := by decide +kernel
theorem dL_law_265 : decode cL_law 265 = .ok (.goto 422, 3) := by decide +kernel
theorem dL_law_268 : decode cL_law 268 = .ok (.aload_n 1, 1) := by decide +kernel
theorem dL_law_269 : decode cL_law 269 = .ok (.aload_n 0, 1) := by decide +kernel
theorem dL_law_270 : decode cL_law 270 = .ok (.iload 4, 2) := by decide +kernel
theorem dL_law_272 : decode cL_law 272 = .ok (.iconst 1, 1) := by decide +kernel
theorem dL_law_273 : decode cL_law 273 = .ok (.iadd, 1) := by decide +kernel
theorem dL_law_274 : decode cL_law 274 = .ok (.iaload, 1) := by decide +kernel
theorem dL_law_275 : decode cL_law 275 = .ok (.invokevirtual 57, 3) := by decide +kernel
theorem dL_law_278 : decode cL_law 278 = .ok (.aload_n 2, 1) := by decide +kernel
theorem dL_law_279 : decode cL_law 279 = .ok (.aload_n 0, 1) := by decide +kernel
theorem dL_law_280 : decode cL_law 280 = .ok (.iload 4, 2) := by decide +kernel
theorem dL_law_282 : decode cL_law 282 = .ok (.iconst 1, 1) := by decide +kernel
theorem dL_law_283 : decode cL_law 283 = .ok (.iadd, 1) := by decide +kernel
theorem dL_law_284 : decode cL_law 284 = .ok (.iaload, 1) := by decide +kernel
theorem dL_law_285 : decode cL_law 285 = .ok (.invokevirtual 61, 3) := by decide +kernel
theorem dL_law_288 : decode cL_law 288 = .ok (.if_icmp .eq 399, 3) := by decide +kernel
theorem dL_law_291 : decode cL_law 291 = .ok (.iconst 0, 1) := by decide +kernel
theorem dL_law_292 : decode cL_law 292 = .ok (.ireturn, 1) := by decide +kernel
theorem dL_law_293 : decode cL_law 293 = .ok (.aload_n 1, 1) := by decide +kernel
theorem dL_law_294 : decode cL_law 294 = .ok (.aload_n 0, 1) := by decide +kernel
theorem dL_law_295 : decode cL_law 295 = .ok (.iload 4, 2) := by decide +kernel
theorem dL_law_297 : decode cL_law 297 = .ok (.iconst 1, 1) := by decide +kernel
theorem dL_law_298 : decode cL_law 298 = .ok (.iadd, 1) := by decide +kernel
theorem dL_law_299 : decode cL_law 299 = .ok (.iaload, 1) := by decide +kernel
theorem dL_law_300 : decode cL_law 300 = .ok (.invokevirtual 62, 3) := by decide +kernel
theorem dL_law_303 : decode cL_law 303 = .ok (.aload_n 2, 1) := by decide +kernel
theorem dL_law_304 : decode cL_law 304 = .ok (.aload_n 0, 1) := by decide +kernel
theorem dL_law_305 : decode cL_law 305 = .ok (.iload 4, 2) := by decide +kernel
theorem dL_law_307 : decode cL_law 307 = .ok (.iconst 1, 1) := by decide +kernel
theorem dL_law_308 : decode cL_law 308 = .ok (.iadd, 1) := by decide +kernel
theorem dL_law_309 : decode cL_law 309 = .ok (.iaload, 1) := by decide +kernel
theorem dL_law_310 : decode cL_law 310 = .ok (.invokevirtual 65, 3) := by decide +kernel
theorem dL_law_313 : decode cL_law 313 = .ok (.if_icmp .eq 374, 3) := by decide +kernel
theorem dL_law_316 : decode cL_law 316 = .ok (.iconst 0, 1) := by decide +kernel
theorem dL_law_317 : decode cL_law 317 = .ok (.ireturn, 1) := by decide +kernel
theorem dL_law_318 : decode cL_law 318 = .ok (.aload_n 1, 1) := by decide +kernel
theorem dL_law_319 : decode cL_law 319 = .ok (.aload_n 0, 1) := by decide +kernel
theorem dL_law_320 : decode cL_law 320 = .ok (.iload 4, 2) := by decide +kernel
theorem dL_law_322 : decode cL_law 322 = .ok (.iconst 1, 1) := by decide +kernel
theorem dL_law_323 : decode cL_law 323 = .ok (.iadd, 1) := by decide +kernel
theorem dL_law_324 : decode cL_law 324 = .ok (.iaload, 1) := by decide +kernel
theorem dL_law_325 : decode cL_law 325 = .ok (.aload_n 0, 1) := by decide +kernel
theorem dL_law_326 : decode cL_law 326 = .ok (.iload 4, 2) := by decide +kernel
theorem dL_law_328 : decode cL_law 328 = .ok (.iconst 2, 1) := by decide +kernel
theorem dL_law_329 : decode cL_law 329 = .ok (.iadd, 1) := by decide +kernel
theorem dL_law_330 : decode cL_law 330 = .ok (.iaload, 1) := by decide +kernel
theorem dL_law_331 : decode cL_law 331 = .ok (.aload_n 3, 1) := by decide +kernel
theorem dL_law_332 : decode cL_law 332 = .ok (.invokestatic 66, 3) := by decide +kernel
theorem dL_law_335 : decode cL_law 335 = .ok (.istore 5, 2) := by decide +kernel
theorem dL_law_337 : decode cL_law 337 = .ok (.aload_n 2, 1) := by decide +kernel
theorem dL_law_338 : decode cL_law 338 = .ok (.aload_n 0, 1) := by decide +kernel
theorem dL_law_339 : decode cL_law 339 = .ok (.iload 4, 2) := by decide +kernel
theorem dL_law_341 : decode cL_law 341 = .ok (.iconst 1, 1) := by decide +kernel
theorem dL_law_342 : decode cL_law 342 = .ok (.iadd, 1) := by decide +kernel
theorem dL_law_343 : decode cL_law 343 = .ok (.iaload, 1) := by decide +kernel
theorem dL_law_344 : decode cL_law 344 = .ok (.aload_n 0, 1) := by decide +kernel
theorem dL_law_345 : decode cL_law 345 = .ok (.iload 4, 2) := by decide +kernel
theorem dL_law_347 : decode cL_law 347 = .ok (.iconst 2, 1) := by decide +kernel
theorem dL_law_348 : decode cL_law 348 = .ok (.iadd, 1) := by decide +kernel
theorem dL_law_349 : decode cL_law 349 = .ok (.iaload, 1) := by decide +kernel
theorem dL_law_350 : decode cL_law 350 = .ok (.invokevirtual 71, 3) := by decide +kernel
theorem dL_law_353 : decode cL_law 353 = .ok (.istore 6, 2) := by decide +kernel
theorem dL_law_355 : decode cL_law 355 = .ok (.aload_n 2, 1) := by decide +kernel
theorem dL_law_356 : decode cL_law 356 = .ok (.invokevirtual 72, 3) := by decide +kernel
theorem dL_law_359 : decode cL_law 359 = .ok (.iload 5, 2) := by decide +kernel
theorem dL_law_361 : decode cL_law 361 = .ok (.if_icmp .eq 5, 3) := by decide +kernel
theorem dL_law_364 : decode cL_law 364 = .ok (.iconst 0, 1) := by decide +kernel
theorem dL_law_365 : decode cL_law 365 = .ok (.ireturn, 1) := by decide +kernel
theorem dL_law_366 : decode cL_law 366 = .ok (.iload 5, 2) := by decide +kernel
theorem dL_law_368 : decode cL_law 368 = .ok (.ifCond .ne 15, 3) := by decide +kernel
theorem dL_law_371 : decode cL_law 371 = .ok (.aload_n 3, 1) := by decide +kernel
theorem dL_law_372 : decode cL_law 372 = .ok (.iconst 0, 1) := by decide +kernel
theorem dL_law_373 : decode cL_law 373 = .ok (.laload, 1) := by decide +kernel
theorem dL_law_374 : decode cL_law 374 = .ok (.iload 6, 2) := by decide +kernel
theorem dL_law_376 : decode cL_law 376 = .ok (.i2l, 1) := by decide +kernel
theorem dL_law_377 : decode cL_law 377 = .ok (.lcmp, 1) := by decide +kernel
theorem dL_law_378 : decode cL_law 378 = .ok (.ifCond .eq 5, 3) := by decide +kernel
theorem dL_law_381 : decode cL_law 381 = .ok (.iconst 0, 1) := by decide +kernel
theorem dL_law_382 : decode cL_law 382 = .ok (.ireturn, 1) := by decide +kernel
theorem dL_law_383 : decode cL_law 383 = .ok (.goto 304, 3) := by decide +kernel
theorem dL_law_386 : decode cL_law 386 = .ok (.aload_n 1, 1) := by decide +kernel
theorem dL_law_387 : decode cL_law 387 = .ok (.aload_n 0, 1) := by decide +kernel
theorem dL_law_388 : decode cL_law 388 = .ok (.iload 4, 2) := by decide +kernel
theorem dL_law_390 : decode cL_law 390 = .ok (.iconst 1, 1) := by decide +kernel
theorem dL_law_391 : decode cL_law 391 = .ok (.iadd, 1) := by decide +kernel
theorem dL_law_392 : decode cL_law 392 = .ok (.iaload, 1) := by decide +kernel
theorem dL_law_393 : decode cL_law 393 = .ok (.aload_n 0, 1) := by decide +kernel
theorem dL_law_394 : decode cL_law 394 = .ok (.iload 4, 2) := by decide +kernel
theorem dL_law_396 : decode cL_law 396 = .ok (.iconst 2, 1) := by decide +kernel
theorem dL_law_397 : decode cL_law 397 = .ok (.iadd, 1) := by decide +kernel
theorem dL_law_398 : decode cL_law 398 = .ok (.iaload, 1) := by decide +kernel
theorem dL_law_399 : decode cL_law 399 = .ok (.aload_n 3, 1) := by decide +kernel
theorem dL_law_400 : decode cL_law 400 = .ok (.invokestatic 76, 3) := by decide +kernel
theorem dL_law_403 : decode cL_law 403 = .ok (.istore 5, 2) := by decide +kernel
theorem dL_law_405 : decode cL_law 405 = .ok (.aload_n 2, 1) := by decide +kernel
theorem dL_law_406 : decode cL_law 406 = .ok (.aload_n 0, 1) := by decide +kernel
theorem dL_law_407 : decode cL_law 407 = .ok (.iload 4, 2) := by decide +kernel
theorem dL_law_409 : decode cL_law 409 = .ok (.iconst 1, 1) := by decide +kernel
theorem dL_law_410 : decode cL_law 410 = .ok (.iadd, 1) := by decide +kernel
theorem dL_law_411 : decode cL_law 411 = .ok (.iaload, 1) := by decide +kernel
theorem dL_law_412 : decode cL_law 412 = .ok (.aload_n 0, 1) := by decide +kernel
theorem dL_law_413 : decode cL_law 413 = .ok (.iload 4, 2) := by decide +kernel
theorem dL_law_415 : decode cL_law 415 = .ok (.iconst 2, 1) := by decide +kernel
theorem dL_law_416 : decode cL_law 416 = .ok (.iadd, 1) := by decide +kernel
theorem dL_law_417 : decode cL_law 417 = .ok (.iaload, 1) := by decide +kernel
theorem dL_law_418 : decode cL_law 418 = .ok (.invokevirtual 78, 3) := by decide +kernel
theorem dL_law_421 : decode cL_law 421 = .ok (.istore 6, 2) := by decide +kernel
theorem dL_law_423 : decode cL_law 423 = .ok (.aload_n 2, 1) := by decide +kernel
theorem dL_law_424 : decode cL_law 424 = .ok (.invokevirtual 72, 3) := by decide +kernel
theorem dL_law_427 : decode cL_law 427 = .ok (.iload 5, 2) := by decide +kernel
theorem dL_law_429 : decode cL_law 429 = .ok (.if_icmp .eq 5, 3) := by decide +kernel
theorem dL_law_432 : decode cL_law 432 = .ok (.iconst 0, 1) := by decide +kernel
theorem dL_law_433 : decode cL_law 433 = .ok (.ireturn, 1) := by decide +kernel
theorem dL_law_434 : decode cL_law 434 = .ok (.iload 5, 2) := by decide +kernel
theorem dL_law_436 : decode cL_law 436 = .ok (.ifCond .ne 15, 3) := by decide +kernel
theorem dL_law_439 : decode cL_law 439 = .ok (.aload_n 3, 1) := by decide +kernel
theorem dL_law_440 : decode cL_law 440 = .ok (.iconst 0, 1) := by decide +kernel
theorem dL_law_441 : decode cL_law 441 = .ok (.laload, 1) := by decide +kernel
theorem dL_law_442 : decode cL_law 442 = .ok (.iload 6, 2) := by decide +kernel
theorem dL_law_444 : decode cL_law 444 = .ok (.i2l, 1) := by decide +kernel
theorem dL_law_445 : decode cL_law 445 = .ok (.lcmp, 1) := by decide +kernel
theorem dL_law_446 : decode cL_law 446 = .ok (.ifCond .eq 5, 3) := by decide +kernel
theorem dL_law_449 : decode cL_law 449 = .ok (.iconst 0, 1) := by decide +kernel
theorem dL_law_450 : decode cL_law 450 = .ok (.ireturn, 1) := by decide +kernel
theorem dL_law_451 : decode cL_law 451 = .ok (.goto 236, 3) := by decide +kernel
theorem dL_law_454 : decode cL_law 454 = .ok (.aload_n 1, 1) := by decide +kernel
theorem dL_law_455 : decode cL_law 455 = .ok (.aload_n 0, 1) := by decide +kernel
theorem dL_law_456 : decode cL_law 456 = .ok (.iload 4, 2) := by decide +kernel
theorem dL_law_458 : decode cL_law 458 = .ok (.iconst 1, 1) := by decide +kernel
theorem dL_law_459 : decode cL_law 459 = .ok (.iadd, 1) := by decide +kernel
theorem dL_law_460 : decode cL_law 460 = .ok (.iaload, 1) := by decide +kernel
theorem dL_law_461 : decode cL_law 461 = .ok (.aload_n 3, 1) := by decide +kernel
theorem dL_law_462 : decode cL_law 462 = .ok (.invokestatic 79, 3) := by decide +kernel
theorem dL_law_465 : decode cL_law 465 = .ok (.istore 5, 2) := by decide +kernel
theorem dL_law_467 : decode cL_law 467 = .ok (.aload_n 2, 1) := by decide +kernel
theorem dL_law_468 : decode cL_law 468 = .ok (.aload_n 0, 1) := by decide +kernel
theorem dL_law_469 : decode cL_law 469 = .ok (.iload 4, 2) := by decide +kernel
theorem dL_law_471 : decode cL_law 471 = .ok (.iconst 1, 1) := by decide +kernel
theorem dL_law_472 : decode cL_law 472 = .ok (.iadd, 1) := by decide +kernel
theorem dL_law_473 : decode cL_law 473 = .ok (.iaload, 1) := by decide +kernel
theorem dL_law_474 : decode cL_law 474 = .ok (.invokevirtual 82, 3) := by decide +kernel
theorem dL_law_477 : decode cL_law 477 = .ok (.istore 6, 2) := by decide +kernel
theorem dL_law_479 : decode cL_law 479 = .ok (.aload_n 2, 1) := by decide +kernel
theorem dL_law_480 : decode cL_law 480 = .ok (.invokevirtual 72, 3) := by decide +kernel
theorem dL_law_483 : decode cL_law 483 = .ok (.iload 5, 2) := by decide +kernel
theorem dL_law_485 : decode cL_law 485 = .ok (.if_icmp .eq 5, 3) := by decide +kernel
theorem dL_law_488 : decode cL_law 488 = .ok (.iconst 0, 1) := by decide +kernel
theorem dL_law_489 : decode cL_law 489 = .ok (.ireturn, 1) := by decide +kernel
theorem dL_law_490 : decode cL_law 490 = .ok (.iload 5, 2) := by decide +kernel
theorem dL_law_492 : decode cL_law 492 = .ok (.ifCond .ne 15, 3) := by decide +kernel
theorem dL_law_495 : decode cL_law 495 = .ok (.aload_n 3, 1) := by decide +kernel
theorem dL_law_496 : decode cL_law 496 = .ok (.iconst 0, 1) := by decide +kernel
theorem dL_law_497 : decode cL_law 497 = .ok (.laload, 1) := by decide +kernel
theorem dL_law_498 : decode cL_law 498 = .ok (.iload 6, 2) := by decide +kernel
theorem dL_law_500 : decode cL_law 500 = .ok (.i2l, 1) := by decide +kernel
theorem dL_law_501 : decode cL_law 501 = .ok (.lcmp, 1) := by decide +kernel
theorem dL_law_502 : decode cL_law 502 = .ok (.ifCond .eq 5, 3) := by decide +kernel
theorem dL_law_505 : decode cL_law 505 = .ok (.iconst 0, 1) := by decide +kernel
theorem dL_law_506 : decode cL_law 506 = .ok (.ireturn, 1) := by decide +kernel
theorem dL_law_507 : decode cL_law 507 = .ok (.goto 180, 3) := by decide +kernel
theorem dL_law_510 : decode cL_law 510 = .ok (.aload_n 1, 1) := by decide +kernel
theorem dL_law_511 : decode cL_law 511 = .ok (.aload_n 0, 1) := by decide +kernel
theorem dL_law_512 : decode cL_law 512 = .ok (.iload 4, 2) := by decide +kernel
theorem dL_law_514 : decode cL_law 514 = .ok (.iconst 1, 1) := by decide +kernel
theorem dL_law_515 : decode cL_law 515 = .ok (.iadd, 1) := by decide +kernel
theorem dL_law_516 : decode cL_law 516 = .ok (.iaload, 1) := by decide +kernel
theorem dL_law_517 : decode cL_law 517 = .ok (.aload_n 3, 1) := by decide +kernel
theorem dL_law_518 : decode cL_law 518 = .ok (.invokestatic 83, 3) := by decide +kernel
theorem dL_law_521 : decode cL_law 521 = .ok (.istore 5, 2) := by decide +kernel
theorem dL_law_523 : decode cL_law 523 = .ok (.aload_n 2, 1) := by decide +kernel
theorem dL_law_524 : decode cL_law 524 = .ok (.aload_n 0, 1) := by decide +kernel
theorem dL_law_525 : decode cL_law 525 = .ok (.iload 4, 2) := by decide +kernel
theorem dL_law_527 : decode cL_law 527 = .ok (.iconst 1, 1) := by decide +kernel
theorem dL_law_528 : decode cL_law 528 = .ok (.iadd, 1) := by decide +kernel
theorem dL_law_529 : decode cL_law 529 = .ok (.iaload, 1) := by decide +kernel
theorem dL_law_530 : decode cL_law 530 = .ok (.invokevirtual 85, 3) := by decide +kernel
theorem dL_law_533 : decode cL_law 533 = .ok (.lstore 6, 2) := by decide +kernel
theorem dL_law_535 : decode cL_law 535 = .ok (.aload_n 2, 1) := by decide +kernel
theorem dL_law_536 : decode cL_law 536 = .ok (.invokevirtual 72, 3) := by decide +kernel
theorem dL_law_539 : decode cL_law 539 = .ok (.iload 5, 2) := by decide +kernel
theorem dL_law_541 : decode cL_law 541 = .ok (.if_icmp .eq 5, 3) := by decide +kernel
theorem dL_law_544 : decode cL_law 544 = .ok (.iconst 0, 1) := by decide +kernel
theorem dL_law_545 : decode cL_law 545 = .ok (.ireturn, 1) := by decide +kernel
theorem dL_law_546 : decode cL_law 546 = .ok (.iload 5, 2) := by decide +kernel
theorem dL_law_548 : decode cL_law 548 = .ok (.ifCond .ne 14, 3) := by decide +kernel
theorem dL_law_551 : decode cL_law 551 = .ok (.aload_n 3, 1) := by decide +kernel
theorem dL_law_552 : decode cL_law 552 = .ok (.iconst 0, 1) := by decide +kernel
theorem dL_law_553 : decode cL_law 553 = .ok (.laload, 1) := by decide +kernel
theorem dL_law_554 : decode cL_law 554 = .ok (.lload 6, 2) := by decide +kernel
theorem dL_law_556 : decode cL_law 556 = .ok (.lcmp, 1) := by decide +kernel
theorem dL_law_557 : decode cL_law 557 = .ok (.ifCond .eq 5, 3) := by decide +kernel
theorem dL_law_560 : decode cL_law 560 = .ok (.iconst 0, 1) := by decide +kernel
theorem dL_law_561 : decode cL_law 561 = .ok (.ireturn, 1) := by decide +kernel
theorem dL_law_562 : decode cL_law 562 = .ok (.goto 125, 3) := by decide +kernel
theorem dL_law_565 : decode cL_law 565 = .ok (.aload_n 1, 1) := by decide +kernel
theorem dL_law_566 : decode cL_law 566 = .ok (.invokevirtual 86, 3) := by decide +kernel
theorem dL_law_569 : decode cL_law 569 = .ok (.aload_n 2, 1) := by decide +kernel
theorem dL_law_570 : decode cL_law 570 = .ok (.invokevirtual 90, 3) := by decide +kernel
theorem dL_law_573 : decode cL_law 573 = .ok (.if_icmp .eq 114, 3) := by decide +kernel
theorem dL_law_576 : decode cL_law 576 = .ok (.iconst 0, 1) := by decide +kernel
theorem dL_law_577 : decode cL_law 577 = .ok (.ireturn, 1) := by decide +kernel
theorem dL_law_578 : decode cL_law 578 = .ok (.aload_n 1, 1) := by decide +kernel
theorem dL_law_579 : decode cL_law 579 = .ok (.aload_n 0, 1) := by decide +kernel
theorem dL_law_580 : decode cL_law 580 = .ok (.iload 4, 2) := by decide +kernel
theorem dL_law_582 : decode cL_law 582 = .ok (.iconst 1, 1) := by decide +kernel
theorem dL_law_583 : decode cL_law 583 = .ok (.iadd, 1) := by decide +kernel
theorem dL_law_584 : decode cL_law 584 = .ok (.iaload, 1) := by decide +kernel
theorem dL_law_585 : decode cL_law 585 = .ok (.aload_n 0, 1) := by decide +kernel
theorem dL_law_586 : decode cL_law 586 = .ok (.iload 4, 2) := by decide +kernel
theorem dL_law_588 : decode cL_law 588 = .ok (.iconst 2, 1) := by decide +kernel
theorem dL_law_589 : decode cL_law 589 = .ok (.iadd, 1) := by decide +kernel
theorem dL_law_590 : decode cL_law 590 = .ok (.iaload, 1) := by decide +kernel
theorem dL_law_591 : decode cL_law 591 = .ok (.ifCond .eq 7, 3) := by decide +kernel
theorem dL_law_594 : decode cL_law 594 = .ok (.iconst 1, 1) := by decide +kernel
theorem dL_law_595 : decode cL_law 595 = .ok (.goto 4, 3) := by decide +kernel
theorem dL_law_598 : decode cL_law 598 = .ok (.iconst 0, 1) := by decide +kernel
theorem dL_law_599 : decode cL_law 599 = .ok (.aload_n 3, 1) := by decide +kernel
theorem dL_law_600 : decode cL_law 600 = .ok (.invokestatic 91, 3) := by decide +kernel
theorem dL_law_603 : decode cL_law 603 = .ok (.istore 5, 2) := by decide +kernel
theorem dL_law_605 : decode cL_law 605 = .ok (.aload_n 2, 1) := by decide +kernel
theorem dL_law_606 : decode cL_law 606 = .ok (.aload_n 0, 1) := by decide +kernel
theorem dL_law_607 : decode cL_law 607 = .ok (.iload 4, 2) := by decide +kernel
theorem dL_law_609 : decode cL_law 609 = .ok (.iconst 1, 1) := by decide +kernel
theorem dL_law_610 : decode cL_law 610 = .ok (.iadd, 1) := by decide +kernel
theorem dL_law_611 : decode cL_law 611 = .ok (.iaload, 1) := by decide +kernel
theorem dL_law_612 : decode cL_law 612 = .ok (.aload_n 0, 1) := by decide +kernel
theorem dL_law_613 : decode cL_law 613 = .ok (.iload 4, 2) := by decide +kernel
theorem dL_law_615 : decode cL_law 615 = .ok (.iconst 2, 1) := by decide +kernel
theorem dL_law_616 : decode cL_law 616 = .ok (.iadd, 1) := by decide +kernel
theorem dL_law_617 : decode cL_law 617 = .ok (.iaload, 1) := by decide +kernel
theorem dL_law_618 : decode cL_law 618 = .ok (.ifCond .eq 7, 3) := by decide +kernel
theorem dL_law_621 : decode cL_law 621 = .ok (.iconst 1, 1) := by decide +kernel
theorem dL_law_622 : decode cL_law 622 = .ok (.goto 4, 3) := by decide +kernel
theorem dL_law_625 : decode cL_law 625 = .ok (.iconst 0, 1) := by decide +kernel
theorem dL_law_626 : decode cL_law 626 = .ok (.invokevirtual 94, 3) := by decide +kernel
theorem dL_law_629 : decode cL_law 629 = .ok (.istore 6, 2) := by decide +kernel
theorem dL_law_631 : decode cL_law 631 = .ok (.aload_n 2, 1) := by decide +kernel
theorem dL_law_632 : decode cL_law 632 = .ok (.invokevirtual 72, 3) := by decide +kernel
theorem dL_law_635 : decode cL_law 635 = .ok (.iload 5, 2) := by decide +kernel
theorem dL_law_637 : decode cL_law 637 = .ok (.if_icmp .eq 5, 3) := by decide +kernel
theorem dL_law_640 : decode cL_law 640 = .ok (.iconst 0, 1) := by decide +kernel
theorem dL_law_641 : decode cL_law 641 = .ok (.ireturn, 1) := by decide +kernel
theorem dL_law_642 : decode cL_law 642 = .ok (.iload 5, 2) := by decide +kernel
theorem dL_law_644 : decode cL_law 644 = .ok (.ifCond .ne 15, 3) := by decide +kernel
theorem dL_law_647 : decode cL_law 647 = .ok (.aload_n 3, 1) := by decide +kernel
theorem dL_law_648 : decode cL_law 648 = .ok (.iconst 0, 1) := by decide +kernel
theorem dL_law_649 : decode cL_law 649 = .ok (.laload, 1) := by decide +kernel
theorem dL_law_650 : decode cL_law 650 = .ok (.iload 6, 2) := by decide +kernel
theorem dL_law_652 : decode cL_law 652 = .ok (.i2l, 1) := by decide +kernel
theorem dL_law_653 : decode cL_law 653 = .ok (.lcmp, 1) := by decide +kernel
theorem dL_law_654 : decode cL_law 654 = .ok (.ifCond .eq 5, 3) := by decide +kernel
theorem dL_law_657 : decode cL_law 657 = .ok (.iconst 0, 1) := by decide +kernel
theorem dL_law_658 : decode cL_law 658 = .ok (.ireturn, 1) := by decide +kernel
theorem dL_law_659 : decode cL_law 659 = .ok (.goto 28, 3) := by decide +kernel
theorem dL_law_662 : decode cL_law 662 = .ok (.aload_n 1, 1) := by decide +kernel
theorem dL_law_663 : decode cL_law 663 = .ok (.aload_n 0, 1) := by decide +kernel
theorem dL_law_664 : decode cL_law 664 = .ok (.iload 4, 2) := by decide +kernel
theorem dL_law_666 : decode cL_law 666 = .ok (.iconst 1, 1) := by decide +kernel
theorem dL_law_667 : decode cL_law 667 = .ok (.iadd, 1) := by decide +kernel
theorem dL_law_668 : decode cL_law 668 = .ok (.iaload, 1) := by decide +kernel
theorem dL_law_669 : decode cL_law 669 = .ok (.invokevirtual 95, 3) := by decide +kernel
theorem dL_law_672 : decode cL_law 672 = .ok (.aload_n 2, 1) := by decide +kernel
theorem dL_law_673 : decode cL_law 673 = .ok (.aload_n 0, 1) := by decide +kernel
theorem dL_law_674 : decode cL_law 674 = .ok (.iload 4, 2) := by decide +kernel
theorem dL_law_676 : decode cL_law 676 = .ok (.iconst 1, 1) := by decide +kernel
theorem dL_law_677 : decode cL_law 677 = .ok (.iadd, 1) := by decide +kernel
theorem dL_law_678 : decode cL_law 678 = .ok (.iaload, 1) := by decide +kernel
theorem dL_law_679 : decode cL_law 679 = .ok (.invokevirtual 98, 3) := by decide +kernel
theorem dL_law_682 : decode cL_law 682 = .ok (.if_icmp .eq 5, 3) := by decide +kernel
theorem dL_law_685 : decode cL_law 685 = .ok (.iconst 0, 1) := by decide +kernel
theorem dL_law_686 : decode cL_law 686 = .ok (.ireturn, 1) := by decide +kernel
theorem dL_law_687 : decode cL_law 687 = .ok (.iinc 4 4, 3) := by decide +kernel
theorem dL_law_690 : decode cL_law 690 = .ok (.goto (-667), 3) := by decide +kernel
theorem dL_law_693 : decode cL_law 693 = .ok (.iconst 1, 1) := by decide +kernel
theorem dL_law_694 : decode cL_law 694 = .ok (.ireturn, 1) := by decide +kernel
end
section
def TT : List Cond := lw_tbl.filter goodWord
theorem tt_m {w : Cond} (h : w ∈ lw_tbl) (g : goodWord w = true) : w ∈ TT := List.mem_filter.mpr ⟨h, g⟩
theorem tt_l {w : Cond} (h : w ∈ TT) : w ∈ lw_tbl := (List.mem_filter.mp h).1
theorem tt_g {w : Cond} (h : w ∈ TT) : (w.onTables && w.keeps) = true ∨ ∃ ty, w = .arrayClass ty := good_of_word (List.mem_filter.mp h).2
theorem tt_c {x : Cond} (h : x ∈ TT) : GoodIn TT (x :: TT) := fun w hw => by
  rcases List.mem_cons.mp hw with rfl | hw
  · exact ⟨h, tt_g h⟩
  · exact ⟨hw, tt_g hw⟩
theorem tt_V {own C : String} {idx n : Nat} {y : MethodName} {b : ByteArray} {r : Option FieldType} (h1 : Cond.methodLink own idx y ∈ TT) (h2 : Cond.instanceMethod y ∈ TT) (h3 : Cond.selects C y y ∈ TT) (h4 : Cond.initialized C ∈ TT) (h5 : Cond.code y b n r ∈ TT) : GoodIn TT (wsV own idx C y (Cond.code y b n r :: TT)) := fun w hw => by
  simp only [wsV, List.cons_append, List.nil_append, List.mem_cons] at hw
  rcases hw with rfl | rfl | rfl | rfl | rfl | hw
  · exact ⟨h1, tt_g h1⟩
  · exact ⟨h2, tt_g h2⟩
  · exact ⟨h3, tt_g h3⟩
  · exact ⟨h4, tt_g h4⟩
  · exact ⟨h5, tt_g h5⟩
  · exact ⟨hw, tt_g hw⟩
theorem tt_S {own : String} {idx n : Nat} {y : MethodName} {b : ByteArray} {r : Option FieldType} (h1 : Cond.methodLink own idx y ∈ TT) (h2 : Cond.static y ∈ TT) (h4 : Cond.initialized own ∈ TT) (h5 : Cond.code y b n r ∈ TT) : GoodIn TT (wsS own idx y (Cond.code y b n r :: TT)) := fun w hw => by
  simp only [wsS, List.cons_append, List.nil_append, List.mem_cons] at hw
  rcases hw with rfl | rfl | rfl | rfl | hw
  · exact ⟨h1, tt_g h1⟩
  · exact ⟨h2, tt_g h2⟩
  · exact ⟨h4, tt_g h4⟩
  · exact ⟨h5, tt_g h5⟩
  · exact ⟨hw, tt_g hw⟩
theorem ks_X7_reset : Cond.selects RX7 yX7_reset yX7_reset ∈ TT := tt_m (List.mem_of_getElem? (i := 0) (by decide +kernel)) rfl
theorem ks_X4_longSide : Cond.selects RX4 yX4_longSide yX4_longSide ∈ TT := tt_m (List.mem_of_getElem? (i := 1) (by decide +kernel)) rfl
theorem ks_X4_shortSide : Cond.selects RX4 yX4_shortSide yX4_shortSide ∈ TT := tt_m (List.mem_of_getElem? (i := 2) (by decide +kernel)) rfl
theorem ks_X7_setDefaults : Cond.selects RX7 yX7_setDefaults yX7_setDefaults ∈ TT := tt_m (List.mem_of_getElem? (i := 3) (by decide +kernel)) rfl
theorem ks_X7_setY : Cond.selects RX7 yX7_setY yX7_setY ∈ TT := tt_m (List.mem_of_getElem? (i := 4) (by decide +kernel)) rfl
theorem ks_X7_byteComes : Cond.selects RX7 yX7_byteComes yX7_byteComes ∈ TT := tt_m (List.mem_of_getElem? (i := 5) (by decide +kernel)) rfl
theorem ks_X5_behindEsc : Cond.selects RX5 yX5_behindEsc yX5_behindEsc ∈ TT := tt_m (List.mem_of_getElem? (i := 6) (by decide +kernel)) rfl
theorem ks_X5_behindFamily : Cond.selects RX5 yX5_behindFamily yX5_behindFamily ∈ TT := tt_m (List.mem_of_getElem? (i := 7) (by decide +kernel)) rfl
theorem ks_X5_beginField : Cond.selects RX5 yX5_beginField yX5_beginField ∈ TT := tt_m (List.mem_of_getElem? (i := 8) (by decide +kernel)) rfl
theorem ks_X5_inField : Cond.selects RX5 yX5_inField yX5_inField ∈ TT := tt_m (List.mem_of_getElem? (i := 9) (by decide +kernel)) rfl
theorem ks_X5_endField : Cond.selects RX5 yX5_endField yX5_endField ∈ TT := tt_m (List.mem_of_getElem? (i := 10) (by decide +kernel)) rfl
theorem ks_X5_belongsToValue : Cond.selects RX5 yX5_belongsToValue yX5_belongsToValue ∈ TT := tt_m (List.mem_of_getElem? (i := 11) (by decide +kernel)) rfl
theorem ks_X5_digit : Cond.selects RX5 yX5_digit yX5_digit ∈ TT := tt_m (List.mem_of_getElem? (i := 12) (by decide +kernel)) rfl
theorem ks_X7_character : Cond.selects RX7 yX7_character yX7_character ∈ TT := tt_m (List.mem_of_getElem? (i := 13) (by decide +kernel)) rfl
theorem ks_X7_carriageReturn : Cond.selects RX7 yX7_carriageReturn yX7_carriageReturn ∈ TT := tt_m (List.mem_of_getElem? (i := 14) (by decide +kernel)) rfl
theorem ks_X7_lineFeed : Cond.selects RX7 yX7_lineFeed yX7_lineFeed ∈ TT := tt_m (List.mem_of_getElem? (i := 15) (by decide +kernel)) rfl
theorem ks_X7_eject : Cond.selects RX7 yX7_eject yX7_eject ∈ TT := tt_m (List.mem_of_getElem? (i := 16) (by decide +kernel)) rfl
theorem ks_X7_setX : Cond.selects RX7 yX7_setX yX7_setX ∈ TT := tt_m (List.mem_of_getElem? (i := 17) (by decide +kernel)) rfl
theorem ks_X7_controlCode : Cond.selects RX7 yX7_controlCode yX7_controlCode ∈ TT := tt_m (List.mem_of_getElem? (i := 18) (by decide +kernel)) rfl
theorem ks_X7_backspace : Cond.selects RX7 yX7_backspace yX7_backspace ∈ TT := tt_m (List.mem_of_getElem? (i := 19) (by decide +kernel)) rfl
theorem ks_X7_tab : Cond.selects RX7 yX7_tab yX7_tab ∈ TT := tt_m (List.mem_of_getElem? (i := 20) (by decide +kernel)) rfl
theorem ks_X7_returnIfLineEndsSo : Cond.selects RX7 yX7_returnIfLineEndsSo yX7_returnIfLineEndsSo ∈ TT := tt_m (List.mem_of_getElem? (i := 21) (by decide +kernel)) rfl
theorem ks_X7_returnWithLineEnd : Cond.selects RX7 yX7_returnWithLineEnd yX7_returnWithLineEnd ∈ TT := tt_m (List.mem_of_getElem? (i := 22) (by decide +kernel)) rfl
theorem ks_X7_shortSequence : Cond.selects RX7 yX7_shortSequence yX7_shortSequence ∈ TT := tt_m (List.mem_of_getElem? (i := 23) (by decide +kernel)) rfl
theorem ks_X7_command : Cond.selects RX7 yX7_command yX7_command ∈ TT := tt_m (List.mem_of_getElem? (i := 24) (by decide +kernel)) rfl
theorem ks_X7_pageCommand : Cond.selects RX7 yX7_pageCommand yX7_pageCommand ∈ TT := tt_m (List.mem_of_getElem? (i := 25) (by decide +kernel)) rfl
theorem ks_X7_changePaper : Cond.selects RX7 yX7_changePaper yX7_changePaper ∈ TT := tt_m (List.mem_of_getElem? (i := 26) (by decide +kernel)) rfl
theorem ks_X7_setStepDown : Cond.selects RX7 yX7_setStepDown yX7_setStepDown ∈ TT := tt_m (List.mem_of_getElem? (i := 27) (by decide +kernel)) rfl
theorem ks_X7_setLinesPerInch : Cond.selects RX7 yX7_setLinesPerInch yX7_setLinesPerInch ∈ TT := tt_m (List.mem_of_getElem? (i := 28) (by decide +kernel)) rfl
theorem ks_X7_setTop : Cond.selects RX7 yX7_setTop yX7_setTop ∈ TT := tt_m (List.mem_of_getElem? (i := 29) (by decide +kernel)) rfl
theorem ks_X7_setLength : Cond.selects RX7 yX7_setLength yX7_setLength ∈ TT := tt_m (List.mem_of_getElem? (i := 30) (by decide +kernel)) rfl
theorem ks_X7_spacingCommand : Cond.selects RX7 yX7_spacingCommand yX7_spacingCommand ∈ TT := tt_m (List.mem_of_getElem? (i := 31) (by decide +kernel)) rfl
theorem ks_X7_marginCommand : Cond.selects RX7 yX7_marginCommand yX7_marginCommand ∈ TT := tt_m (List.mem_of_getElem? (i := 32) (by decide +kernel)) rfl
theorem ks_X7_setLeft : Cond.selects RX7 yX7_setLeft yX7_setLeft ∈ TT := tt_m (List.mem_of_getElem? (i := 33) (by decide +kernel)) rfl
theorem ks_X7_setRight : Cond.selects RX7 yX7_setRight yX7_setRight ∈ TT := tt_m (List.mem_of_getElem? (i := 34) (by decide +kernel)) rfl
theorem ks_X7_cursorCommand : Cond.selects RX7 yX7_cursorCommand yX7_cursorCommand ∈ TT := tt_m (List.mem_of_getElem? (i := 35) (by decide +kernel)) rfl
theorem ks_X7_goAcross : Cond.selects RX7 yX7_goAcross yX7_goAcross ∈ TT := tt_m (List.mem_of_getElem? (i := 36) (by decide +kernel)) rfl
theorem ks_X7_goDown : Cond.selects RX7 yX7_goDown yX7_goDown ∈ TT := tt_m (List.mem_of_getElem? (i := 37) (by decide +kernel)) rfl
theorem ks_X7_wrapCommand : Cond.selects RX7 yX7_wrapCommand yX7_wrapCommand ∈ TT := tt_m (List.mem_of_getElem? (i := 38) (by decide +kernel)) rfl
theorem ks_X7_stackCommand : Cond.selects RX7 yX7_stackCommand yX7_stackCommand ∈ TT := tt_m (List.mem_of_getElem? (i := 39) (by decide +kernel)) rfl
theorem ks_X7_dotCommand : Cond.selects RX7 yX7_dotCommand yX7_dotCommand ∈ TT := tt_m (List.mem_of_getElem? (i := 40) (by decide +kernel)) rfl
theorem ks_X8_reset : Cond.selects RX8 yX8_reset yX8_reset ∈ TT := tt_m (List.mem_of_getElem? (i := 42) (by decide +kernel)) rfl
theorem ks_X8_defaults : Cond.selects RX8 yX8_defaults yX8_defaults ∈ TT := tt_m (List.mem_of_getElem? (i := 43) (by decide +kernel)) rfl
theorem ks_X8_measure : Cond.selects RX8 yX8_measure yX8_measure ∈ TT := tt_m (List.mem_of_getElem? (i := 44) (by decide +kernel)) rfl
theorem ks_X8_setX : Cond.selects RX8 yX8_setX yX8_setX ∈ TT := tt_m (List.mem_of_getElem? (i := 45) (by decide +kernel)) rfl
theorem ks_X8_home : Cond.selects RX8 yX8_home yX8_home ∈ TT := tt_m (List.mem_of_getElem? (i := 46) (by decide +kernel)) rfl
theorem ks_X8_setY : Cond.selects RX8 yX8_setY yX8_setY ∈ TT := tt_m (List.mem_of_getElem? (i := 47) (by decide +kernel)) rfl
theorem ks_X8_comes : Cond.selects RX8 yX8_comes yX8_comes ∈ TT := tt_m (List.mem_of_getElem? (i := 48) (by decide +kernel)) rfl
theorem ks_X8_datum : Cond.selects RX8 yX8_datum yX8_datum ∈ TT := tt_m (List.mem_of_getElem? (i := 49) (by decide +kernel)) rfl
theorem ks_X8_character : Cond.selects RX8 yX8_character yX8_character ∈ TT := tt_m (List.mem_of_getElem? (i := 50) (by decide +kernel)) rfl
theorem ks_X8_carriageReturn : Cond.selects RX8 yX8_carriageReturn yX8_carriageReturn ∈ TT := tt_m (List.mem_of_getElem? (i := 51) (by decide +kernel)) rfl
theorem ks_X8_lineFeed : Cond.selects RX8 yX8_lineFeed yX8_lineFeed ∈ TT := tt_m (List.mem_of_getElem? (i := 52) (by decide +kernel)) rfl
theorem ks_X8_eject : Cond.selects RX8 yX8_eject yX8_eject ∈ TT := tt_m (List.mem_of_getElem? (i := 53) (by decide +kernel)) rfl
theorem ks_X8_behindEsc : Cond.selects RX8 yX8_behindEsc yX8_behindEsc ∈ TT := tt_m (List.mem_of_getElem? (i := 54) (by decide +kernel)) rfl
theorem ks_X8_shortSequence : Cond.selects RX8 yX8_shortSequence yX8_shortSequence ∈ TT := tt_m (List.mem_of_getElem? (i := 55) (by decide +kernel)) rfl
theorem ks_X8_ejectIfDue : Cond.selects RX8 yX8_ejectIfDue yX8_ejectIfDue ∈ TT := tt_m (List.mem_of_getElem? (i := 56) (by decide +kernel)) rfl
theorem ks_X8_beginField : Cond.selects RX8 yX8_beginField yX8_beginField ∈ TT := tt_m (List.mem_of_getElem? (i := 57) (by decide +kernel)) rfl
theorem ks_X8_field : Cond.selects RX8 yX8_field yX8_field ∈ TT := tt_m (List.mem_of_getElem? (i := 58) (by decide +kernel)) rfl
theorem ks_X8_command : Cond.selects RX8 yX8_command yX8_command ∈ TT := tt_m (List.mem_of_getElem? (i := 59) (by decide +kernel)) rfl
theorem ks_X8_value : Cond.selects RX8 yX8_value yX8_value ∈ TT := tt_m (List.mem_of_getElem? (i := 60) (by decide +kernel)) rfl
theorem ks_X8_known : Cond.selects RX8 yX8_known yX8_known ∈ TT := tt_m (List.mem_of_getElem? (i := 61) (by decide +kernel)) rfl
theorem ks_X8_paging : Cond.selects RX8 yX8_paging yX8_paging ∈ TT := tt_m (List.mem_of_getElem? (i := 62) (by decide +kernel)) rfl
theorem ks_X8_is : Cond.selects RX8 yX8_is yX8_is ∈ TT := tt_m (List.mem_of_getElem? (i := 63) (by decide +kernel)) rfl
theorem ks_X8_stack : Cond.selects RX8 yX8_stack yX8_stack ∈ TT := tt_m (List.mem_of_getElem? (i := 64) (by decide +kernel)) rfl
theorem ks_X8_cursor : Cond.selects RX8 yX8_cursor yX8_cursor ∈ TT := tt_m (List.mem_of_getElem? (i := 65) (by decide +kernel)) rfl
theorem ks_X8_handOn : Cond.selects RX8 yX8_handOn yX8_handOn ∈ TT := tt_m (List.mem_of_getElem? (i := 66) (by decide +kernel)) rfl
theorem ks_X8_control : Cond.selects RX8 yX8_control yX8_control ∈ TT := tt_m (List.mem_of_getElem? (i := 67) (by decide +kernel)) rfl
theorem ks_X8_tab : Cond.selects RX8 yX8_tab yX8_tab ∈ TT := tt_m (List.mem_of_getElem? (i := 68) (by decide +kernel)) rfl
theorem ki_L : Cond.initialized RL ∈ TT := tt_m (List.mem_of_getElem? (i := 69) (by decide +kernel)) rfl
theorem ki_X7 : Cond.initialized RX7 ∈ TT := tt_m (List.mem_of_getElem? (i := 70) (by decide +kernel)) rfl
theorem ki_X5 : Cond.initialized RX5 ∈ TT := tt_m (List.mem_of_getElem? (i := 71) (by decide +kernel)) rfl
theorem ki_X4 : Cond.initialized RX4 ∈ TT := tt_m (List.mem_of_getElem? (i := 72) (by decide +kernel)) rfl
theorem ki_X1 : Cond.initialized RX1 ∈ TT := tt_m (List.mem_of_getElem? (i := 73) (by decide +kernel)) rfl
theorem ki_X6 : Cond.initialized RX6 ∈ TT := tt_m (List.mem_of_getElem? (i := 74) (by decide +kernel)) rfl
theorem ki_X0 : Cond.initialized RX0 ∈ TT := tt_m (List.mem_of_getElem? (i := 75) (by decide +kernel)) rfl
theorem ki_X3 : Cond.initialized RX3 ∈ TT := tt_m (List.mem_of_getElem? (i := 76) (by decide +kernel)) rfl
theorem ki_X2 : Cond.initialized RX2 ∈ TT := tt_m (List.mem_of_getElem? (i := 77) (by decide +kernel)) rfl
theorem ki_J7 : Cond.initialized RJ7 ∈ TT := tt_m (List.mem_of_getElem? (i := 78) (by decide +kernel)) rfl
theorem ki_X8 : Cond.initialized RX8 ∈ TT := tt_m (List.mem_of_getElem? (i := 79) (by decide +kernel)) rfl
theorem ki_J9 : Cond.initialized RJ9 ∈ TT := tt_m (List.mem_of_getElem? (i := 80) (by decide +kernel)) rfl
theorem ki_J10 : Cond.initialized RJ10 ∈ TT := tt_m (List.mem_of_getElem? (i := 81) (by decide +kernel)) rfl
theorem ki_Throwable : Cond.initialized "java/lang/Throwable" ∈ TT := tt_m (List.mem_of_getElem? (i := 82) (by decide +kernel)) rfl
theorem ki_Exception : Cond.initialized "java/lang/Exception" ∈ TT := tt_m (List.mem_of_getElem? (i := 83) (by decide +kernel)) rfl
theorem ki_RuntimeException : Cond.initialized "java/lang/RuntimeException" ∈ TT := tt_m (List.mem_of_getElem? (i := 84) (by decide +kernel)) rfl
theorem ki_IndexOutOfBoundsException : Cond.initialized "java/lang/IndexOutOfBoundsException" ∈ TT := tt_m (List.mem_of_getElem? (i := 85) (by decide +kernel)) rfl
theorem ki_IllegalStateException : Cond.initialized "java/lang/IllegalStateException" ∈ TT := tt_m (List.mem_of_getElem? (i := 86) (by decide +kernel)) rfl
theorem kk_L_8 : Cond.classLink RL 8 RX7 ∈ TT := tt_m (List.mem_of_getElem? (i := 87) (by decide +kernel)) rfl
theorem kN_X7 : Cond.instantiable RX7 10 ∈ TT := tt_m (List.mem_of_getElem? (i := 88) (by decide +kernel)) rfl
theorem km_L_32 : Cond.methodLink RL 32 yX7_init ∈ TT := tt_m (List.mem_of_getElem? (i := 89) (by decide +kernel)) rfl
theorem kI_X7_init : Cond.instanceMethod yX7_init ∈ TT := tt_m (List.mem_of_getElem? (i := 90) (by decide +kernel)) rfl
theorem kC_X7_init : Cond.code yX7_init cX7_init 2 none ∈ TT := tt_m (List.mem_of_getElem? (i := 91) (by decide +kernel)) rfl
theorem km_X7_1 : Cond.methodLink RX7 1 (⟨"java/lang/Object", "<init>", "()V"⟩ : MethodName) ∈ TT := tt_m (List.mem_of_getElem? (i := 92) (by decide +kernel)) rfl
theorem kI_Object__init_ : Cond.instanceMethod (⟨"java/lang/Object", "<init>", "()V"⟩ : MethodName) ∈ TT := tt_m (List.mem_of_getElem? (i := 93) (by decide +kernel)) rfl
theorem kk_X7_7 : Cond.classLink RX7 7 RX5 ∈ TT := tt_m (List.mem_of_getElem? (i := 95) (by decide +kernel)) rfl
theorem kN_X5 : Cond.instantiable RX5 13 ∈ TT := tt_m (List.mem_of_getElem? (i := 96) (by decide +kernel)) rfl
theorem kn_X7_9 : Cond.methodLinkNest RX7 9 yX5_init "PageDesk" ∈ lw_tbl := List.mem_of_getElem? (i := 97) (by decide +kernel)
theorem kI_X5_init : Cond.instanceMethod yX5_init ∈ TT := tt_m (List.mem_of_getElem? (i := 98) (by decide +kernel)) rfl
theorem kC_X5_init : Cond.code yX5_init cX5_init 1 none ∈ TT := tt_m (List.mem_of_getElem? (i := 99) (by decide +kernel)) rfl
theorem km_X5_3 : Cond.methodLink RX5 3 (⟨"java/lang/Object", "<init>", "()V"⟩ : MethodName) ∈ TT := tt_m (List.mem_of_getElem? (i := 100) (by decide +kernel)) rfl
theorem kf_X3_31 : Cond.fieldLink RX3 31 "PageDesk$Parser" "family" "I" ∈ TT := tt_m (List.mem_of_getElem? (i := 101) (by decide +kernel)) rfl
theorem kf_X5_18 : Cond.fieldLink RX5 18 "PageDesk$Parser" "family" "I" ∈ TT := tt_m (List.mem_of_getElem? (i := 102) (by decide +kernel)) rfl
theorem kf_X7_271 : Cond.fieldLink RX7 271 "PageDesk$Parser" "family" "I" ∈ TT := tt_m (List.mem_of_getElem? (i := 103) (by decide +kernel)) rfl
theorem kf_X3_37 : Cond.fieldLink RX3 37 "PageDesk$Parser" "group" "I" ∈ TT := tt_m (List.mem_of_getElem? (i := 104) (by decide +kernel)) rfl
theorem kf_X5_21 : Cond.fieldLink RX5 21 "PageDesk$Parser" "group" "I" ∈ TT := tt_m (List.mem_of_getElem? (i := 105) (by decide +kernel)) rfl
theorem kf_X7_274 : Cond.fieldLink RX7 274 "PageDesk$Parser" "group" "I" ∈ TT := tt_m (List.mem_of_getElem? (i := 106) (by decide +kernel)) rfl
theorem kf_X3_41 : Cond.fieldLink RX3 41 "PageDesk$Parser" "value" "I" ∈ TT := tt_m (List.mem_of_getElem? (i := 107) (by decide +kernel)) rfl
theorem kf_X5_80 : Cond.fieldLink RX5 80 "PageDesk$Parser" "value" "I" ∈ TT := tt_m (List.mem_of_getElem? (i := 108) (by decide +kernel)) rfl
theorem kf_X7_266 : Cond.fieldLink RX7 266 "PageDesk$Parser" "value" "I" ∈ TT := tt_m (List.mem_of_getElem? (i := 109) (by decide +kernel)) rfl
theorem kf_X3_45 : Cond.fieldLink RX3 45 "PageDesk$Parser" "end" "I" ∈ TT := tt_m (List.mem_of_getElem? (i := 110) (by decide +kernel)) rfl
theorem kf_X5_24 : Cond.fieldLink RX5 24 "PageDesk$Parser" "end" "I" ∈ TT := tt_m (List.mem_of_getElem? (i := 111) (by decide +kernel)) rfl
theorem kf_X7_306 : Cond.fieldLink RX7 306 "PageDesk$Parser" "end" "I" ∈ TT := tt_m (List.mem_of_getElem? (i := 112) (by decide +kernel)) rfl
theorem kf_X3_49 : Cond.fieldLink RX3 49 "PageDesk$Parser" "signed" "Z" ∈ TT := tt_m (List.mem_of_getElem? (i := 113) (by decide +kernel)) rfl
theorem kf_X5_83 : Cond.fieldLink RX5 83 "PageDesk$Parser" "signed" "Z" ∈ TT := tt_m (List.mem_of_getElem? (i := 114) (by decide +kernel)) rfl
theorem kf_X7_355 : Cond.fieldLink RX7 355 "PageDesk$Parser" "signed" "Z" ∈ TT := tt_m (List.mem_of_getElem? (i := 115) (by decide +kernel)) rfl
theorem kf_X5_15 : Cond.fieldLink RX5 15 "PageDesk$Parser" "dataLeft" "I" ∈ TT := tt_m (List.mem_of_getElem? (i := 116) (by decide +kernel)) rfl
theorem kf_X3_56 : Cond.fieldLink RX3 56 "PageDesk$Parser" "dataLeft" "I" ∈ TT := tt_m (List.mem_of_getElem? (i := 117) (by decide +kernel)) rfl
theorem kf_X5_9 : Cond.fieldLink RX5 9 "PageDesk$Parser" "state" "I" ∈ TT := tt_m (List.mem_of_getElem? (i := 118) (by decide +kernel)) rfl
theorem kf_X5_44 : Cond.fieldLink RX5 44 "PageDesk$Parser" "valueState" "I" ∈ TT := tt_m (List.mem_of_getElem? (i := 119) (by decide +kernel)) rfl
theorem kf_X5_47 : Cond.fieldLink RX5 47 "PageDesk$Parser" "plus" "Z" ∈ TT := tt_m (List.mem_of_getElem? (i := 120) (by decide +kernel)) rfl
theorem kf_X5_51 : Cond.fieldLink RX5 51 "PageDesk$Parser" "minus" "Z" ∈ TT := tt_m (List.mem_of_getElem? (i := 121) (by decide +kernel)) rfl
theorem kf_X5_54 : Cond.fieldLink RX5 54 "PageDesk$Parser" "whole" "I" ∈ TT := tt_m (List.mem_of_getElem? (i := 122) (by decide +kernel)) rfl
theorem kf_X5_57 : Cond.fieldLink RX5 57 "PageDesk$Parser" "fraction" "I" ∈ TT := tt_m (List.mem_of_getElem? (i := 123) (by decide +kernel)) rfl
theorem kf_X5_60 : Cond.fieldLink RX5 60 "PageDesk$Parser" "nextDigitWorth" "I" ∈ TT := tt_m (List.mem_of_getElem? (i := 124) (by decide +kernel)) rfl
theorem kk_X7_16 : Cond.classLink RX7 16 RX4 ∈ TT := tt_m (List.mem_of_getElem? (i := 152) (by decide +kernel)) rfl
theorem kN_X4 : Cond.instantiable RX4 5 ∈ TT := tt_m (List.mem_of_getElem? (i := 153) (by decide +kernel)) rfl
theorem kn_X7_18 : Cond.methodLinkNest RX7 18 yX4_init "PageDesk" ∈ lw_tbl := List.mem_of_getElem? (i := 154) (by decide +kernel)
theorem kI_X4_init : Cond.instanceMethod yX4_init ∈ TT := tt_m (List.mem_of_getElem? (i := 155) (by decide +kernel)) rfl
theorem kC_X4_init : Cond.code yX4_init cX4_init 1 none ∈ TT := tt_m (List.mem_of_getElem? (i := 156) (by decide +kernel)) rfl
theorem km_X4_1 : Cond.methodLink RX4 1 (⟨"java/lang/Object", "<init>", "()V"⟩ : MethodName) ∈ TT := tt_m (List.mem_of_getElem? (i := 157) (by decide +kernel)) rfl
theorem kf_X0_23 : Cond.fieldLink RX0 23 "PageDesk$Paper" "size" "I" ∈ TT := tt_m (List.mem_of_getElem? (i := 158) (by decide +kernel)) rfl
theorem kf_X4_15 : Cond.fieldLink RX4 15 "PageDesk$Paper" "size" "I" ∈ TT := tt_m (List.mem_of_getElem? (i := 159) (by decide +kernel)) rfl
theorem kf_X7_166 : Cond.fieldLink RX7 166 "PageDesk$Paper" "size" "I" ∈ TT := tt_m (List.mem_of_getElem? (i := 160) (by decide +kernel)) rfl
theorem kf_X0_28 : Cond.fieldLink RX0 28 "PageDesk$Paper" "orientation" "I" ∈ TT := tt_m (List.mem_of_getElem? (i := 161) (by decide +kernel)) rfl
theorem kf_X4_21 : Cond.fieldLink RX4 21 "PageDesk$Paper" "orientation" "I" ∈ TT := tt_m (List.mem_of_getElem? (i := 162) (by decide +kernel)) rfl
theorem kf_X7_169 : Cond.fieldLink RX7 169 "PageDesk$Paper" "orientation" "I" ∈ TT := tt_m (List.mem_of_getElem? (i := 163) (by decide +kernel)) rfl
theorem kf_X0_31 : Cond.fieldLink RX0 31 "PageDesk$Paper" "copies" "I" ∈ TT := tt_m (List.mem_of_getElem? (i := 164) (by decide +kernel)) rfl
theorem kf_X7_181 : Cond.fieldLink RX7 181 "PageDesk$Paper" "copies" "I" ∈ TT := tt_m (List.mem_of_getElem? (i := 165) (by decide +kernel)) rfl
theorem kf_X4_31 : Cond.fieldLink RX4 31 "PageDesk$Paper" "width" "I" ∈ TT := tt_m (List.mem_of_getElem? (i := 166) (by decide +kernel)) rfl
theorem kf_X7_95 : Cond.fieldLink RX7 95 "PageDesk$Paper" "width" "I" ∈ TT := tt_m (List.mem_of_getElem? (i := 167) (by decide +kernel)) rfl
theorem kf_X4_34 : Cond.fieldLink RX4 34 "PageDesk$Paper" "height" "I" ∈ TT := tt_m (List.mem_of_getElem? (i := 168) (by decide +kernel)) rfl
theorem kf_X7_163 : Cond.fieldLink RX7 163 "PageDesk$Paper" "height" "I" ∈ TT := tt_m (List.mem_of_getElem? (i := 169) (by decide +kernel)) rfl
theorem kk_X7_23 : Cond.classLink RX7 23 RX1 ∈ TT := tt_m (List.mem_of_getElem? (i := 181) (by decide +kernel)) rfl
theorem kN_X1 : Cond.instantiable RX1 15 ∈ TT := tt_m (List.mem_of_getElem? (i := 182) (by decide +kernel)) rfl
theorem kn_X7_25 : Cond.methodLinkNest RX7 25 yX1_init "PageDesk" ∈ lw_tbl := List.mem_of_getElem? (i := 183) (by decide +kernel)
theorem kI_X1_init : Cond.instanceMethod yX1_init ∈ TT := tt_m (List.mem_of_getElem? (i := 184) (by decide +kernel)) rfl
theorem kC_X1_init : Cond.code yX1_init cX1_init 1 none ∈ TT := tt_m (List.mem_of_getElem? (i := 185) (by decide +kernel)) rfl
theorem km_X1_1 : Cond.methodLink RX1 1 (⟨"java/lang/Object", "<init>", "()V"⟩ : MethodName) ∈ TT := tt_m (List.mem_of_getElem? (i := 186) (by decide +kernel)) rfl
theorem kf_X1_16 : Cond.fieldLink RX1 16 "PageDesk$Layout" "top" "I" ∈ TT := tt_m (List.mem_of_getElem? (i := 187) (by decide +kernel)) rfl
theorem kf_X7_151 : Cond.fieldLink RX7 151 "PageDesk$Layout" "top" "I" ∈ TT := tt_m (List.mem_of_getElem? (i := 188) (by decide +kernel)) rfl
theorem kf_X1_32 : Cond.fieldLink RX1 32 "PageDesk$Layout" "length" "I" ∈ TT := tt_m (List.mem_of_getElem? (i := 189) (by decide +kernel)) rfl
theorem kf_X7_154 : Cond.fieldLink RX7 154 "PageDesk$Layout" "length" "I" ∈ TT := tt_m (List.mem_of_getElem? (i := 190) (by decide +kernel)) rfl
theorem kf_X1_35 : Cond.fieldLink RX1 35 "PageDesk$Layout" "left" "I" ∈ TT := tt_m (List.mem_of_getElem? (i := 191) (by decide +kernel)) rfl
theorem kf_X7_91 : Cond.fieldLink RX7 91 "PageDesk$Layout" "left" "I" ∈ TT := tt_m (List.mem_of_getElem? (i := 192) (by decide +kernel)) rfl
theorem kf_X1_38 : Cond.fieldLink RX1 38 "PageDesk$Layout" "right" "I" ∈ TT := tt_m (List.mem_of_getElem? (i := 193) (by decide +kernel)) rfl
theorem kf_X7_102 : Cond.fieldLink RX7 102 "PageDesk$Layout" "right" "I" ∈ TT := tt_m (List.mem_of_getElem? (i := 194) (by decide +kernel)) rfl
theorem kf_X1_41 : Cond.fieldLink RX1 41 "PageDesk$Layout" "stepAcross" "I" ∈ TT := tt_m (List.mem_of_getElem? (i := 195) (by decide +kernel)) rfl
theorem kf_X7_157 : Cond.fieldLink RX7 157 "PageDesk$Layout" "stepAcross" "I" ∈ TT := tt_m (List.mem_of_getElem? (i := 196) (by decide +kernel)) rfl
theorem kf_X1_20 : Cond.fieldLink RX1 20 "PageDesk$Layout" "stepDown" "I" ∈ TT := tt_m (List.mem_of_getElem? (i := 197) (by decide +kernel)) rfl
theorem kf_X7_160 : Cond.fieldLink RX7 160 "PageDesk$Layout" "stepDown" "I" ∈ TT := tt_m (List.mem_of_getElem? (i := 198) (by decide +kernel)) rfl
theorem kf_X1_26 : Cond.fieldLink RX1 26 "PageDesk$Layout" "x" "I" ∈ TT := tt_m (List.mem_of_getElem? (i := 199) (by decide +kernel)) rfl
theorem kf_X7_105 : Cond.fieldLink RX7 105 "PageDesk$Layout" "x" "I" ∈ TT := tt_m (List.mem_of_getElem? (i := 200) (by decide +kernel)) rfl
theorem kf_X1_29 : Cond.fieldLink RX1 29 "PageDesk$Layout" "y" "I" ∈ TT := tt_m (List.mem_of_getElem? (i := 201) (by decide +kernel)) rfl
theorem kf_X7_108 : Cond.fieldLink RX7 108 "PageDesk$Layout" "y" "I" ∈ TT := tt_m (List.mem_of_getElem? (i := 202) (by decide +kernel)) rfl
theorem kf_X1_44 : Cond.fieldLink RX1 44 "PageDesk$Layout" "wrap" "Z" ∈ TT := tt_m (List.mem_of_getElem? (i := 203) (by decide +kernel)) rfl
theorem kf_X7_172 : Cond.fieldLink RX7 172 "PageDesk$Layout" "wrap" "Z" ∈ TT := tt_m (List.mem_of_getElem? (i := 204) (by decide +kernel)) rfl
theorem kf_X1_48 : Cond.fieldLink RX1 48 "PageDesk$Layout" "skip" "Z" ∈ TT := tt_m (List.mem_of_getElem? (i := 205) (by decide +kernel)) rfl
theorem kf_X7_175 : Cond.fieldLink RX7 175 "PageDesk$Layout" "skip" "Z" ∈ TT := tt_m (List.mem_of_getElem? (i := 206) (by decide +kernel)) rfl
theorem kf_X1_51 : Cond.fieldLink RX1 51 "PageDesk$Layout" "lineEnd" "I" ∈ TT := tt_m (List.mem_of_getElem? (i := 207) (by decide +kernel)) rfl
theorem kf_X7_178 : Cond.fieldLink RX7 178 "PageDesk$Layout" "lineEnd" "I" ∈ TT := tt_m (List.mem_of_getElem? (i := 208) (by decide +kernel)) rfl
theorem kf_X1_54 : Cond.fieldLink RX1 54 "PageDesk$Layout" "font" "I" ∈ TT := tt_m (List.mem_of_getElem? (i := 209) (by decide +kernel)) rfl
theorem kf_X7_184 : Cond.fieldLink RX7 184 "PageDesk$Layout" "font" "I" ∈ TT := tt_m (List.mem_of_getElem? (i := 210) (by decide +kernel)) rfl
theorem kf_X1_23 : Cond.fieldLink RX1 23 "PageDesk$Layout" "depth" "I" ∈ TT := tt_m (List.mem_of_getElem? (i := 211) (by decide +kernel)) rfl
theorem kf_X7_142 : Cond.fieldLink RX7 142 "PageDesk$Layout" "depth" "I" ∈ TT := tt_m (List.mem_of_getElem? (i := 212) (by decide +kernel)) rfl
theorem kf_X1_9 : Cond.fieldLink RX1 9 "PageDesk$Layout" "stackX" "[I" ∈ TT := tt_m (List.mem_of_getElem? (i := 213) (by decide +kernel)) rfl
theorem kf_X7_148 : Cond.fieldLink RX7 148 "PageDesk$Layout" "stackX" "[I" ∈ TT := tt_m (List.mem_of_getElem? (i := 214) (by decide +kernel)) rfl
theorem kf_X1_13 : Cond.fieldLink RX1 13 "PageDesk$Layout" "stackY" "[I" ∈ TT := tt_m (List.mem_of_getElem? (i := 215) (by decide +kernel)) rfl
theorem kf_X7_145 : Cond.fieldLink RX7 145 "PageDesk$Layout" "stackY" "[I" ∈ TT := tt_m (List.mem_of_getElem? (i := 216) (by decide +kernel)) rfl
theorem ka_int : Cond.arrayClass .int ∈ TT := tt_m (List.mem_of_getElem? (i := 248) (by decide +kernel)) rfl
theorem ko_X1 : Cond.arrayOver (.object "PageDesk$Layout") ∈ lw_tbl := List.mem_of_getElem? (i := 249) (by decide +kernel)
theorem kk_X7_38 : Cond.classLink RX7 38 RX6 ∈ TT := tt_m (List.mem_of_getElem? (i := 250) (by decide +kernel)) rfl
theorem kN_X6 : Cond.instantiable RX6 4 ∈ TT := tt_m (List.mem_of_getElem? (i := 251) (by decide +kernel)) rfl
theorem kn_X7_40 : Cond.methodLinkNest RX7 40 yX6_init "PageDesk" ∈ lw_tbl := List.mem_of_getElem? (i := 252) (by decide +kernel)
theorem kI_X6_init : Cond.instanceMethod yX6_init ∈ TT := tt_m (List.mem_of_getElem? (i := 253) (by decide +kernel)) rfl
theorem kC_X6_init : Cond.code yX6_init cX6_init 1 none ∈ TT := tt_m (List.mem_of_getElem? (i := 254) (by decide +kernel)) rfl
theorem km_X6_1 : Cond.methodLink RX6 1 (⟨"java/lang/Object", "<init>", "()V"⟩ : MethodName) ∈ TT := tt_m (List.mem_of_getElem? (i := 255) (by decide +kernel)) rfl
theorem kf_X6_9 : Cond.fieldLink RX6 9 "PageDesk$Sheet" "glyphs" "[J" ∈ TT := tt_m (List.mem_of_getElem? (i := 256) (by decide +kernel)) rfl
theorem kf_X6_17 : Cond.fieldLink RX6 17 "PageDesk$Sheet" "count" "I" ∈ TT := tt_m (List.mem_of_getElem? (i := 257) (by decide +kernel)) rfl
theorem kf_X7_111 : Cond.fieldLink RX7 111 "PageDesk$Sheet" "count" "I" ∈ TT := tt_m (List.mem_of_getElem? (i := 258) (by decide +kernel)) rfl
theorem kf_X6_13 : Cond.fieldLink RX6 13 "PageDesk$Sheet" "came" "I" ∈ TT := tt_m (List.mem_of_getElem? (i := 259) (by decide +kernel)) rfl
theorem kf_X7_232 : Cond.fieldLink RX7 232 "PageDesk$Sheet" "came" "I" ∈ TT := tt_m (List.mem_of_getElem? (i := 260) (by decide +kernel)) rfl
theorem kf_X6_20 : Cond.fieldLink RX6 20 "PageDesk$Sheet" "toldDue" "Z" ∈ TT := tt_m (List.mem_of_getElem? (i := 261) (by decide +kernel)) rfl
theorem kf_X7_76 : Cond.fieldLink RX7 76 "PageDesk$Sheet" "toldDue" "Z" ∈ TT := tt_m (List.mem_of_getElem? (i := 262) (by decide +kernel)) rfl
theorem ka_boolean : Cond.arrayClass .boolean ∈ TT := tt_m (List.mem_of_getElem? (i := 272) (by decide +kernel)) rfl
theorem ka_long : Cond.arrayClass .long ∈ TT := tt_m (List.mem_of_getElem? (i := 273) (by decide +kernel)) rfl
theorem kk_X7_45 : Cond.classLink RX7 45 RX0 ∈ TT := tt_m (List.mem_of_getElem? (i := 274) (by decide +kernel)) rfl
theorem kN_X0 : Cond.instantiable RX0 2 ∈ TT := tt_m (List.mem_of_getElem? (i := 275) (by decide +kernel)) rfl
theorem kn_X7_47 : Cond.methodLinkNest RX7 47 yX0_init "PageDesk" ∈ lw_tbl := List.mem_of_getElem? (i := 276) (by decide +kernel)
theorem kI_X0_init : Cond.instanceMethod yX0_init ∈ TT := tt_m (List.mem_of_getElem? (i := 277) (by decide +kernel)) rfl
theorem kC_X0_init : Cond.code yX0_init cX0_init 1 none ∈ TT := tt_m (List.mem_of_getElem? (i := 278) (by decide +kernel)) rfl
theorem km_X0_1 : Cond.methodLink RX0 1 (⟨"java/lang/Object", "<init>", "()V"⟩ : MethodName) ∈ TT := tt_m (List.mem_of_getElem? (i := 279) (by decide +kernel)) rfl
theorem kf_X0_9 : Cond.fieldLink RX0 9 "PageDesk$DonePages" "parts" "[I" ∈ TT := tt_m (List.mem_of_getElem? (i := 280) (by decide +kernel)) rfl
theorem kf_X0_13 : Cond.fieldLink RX0 13 "PageDesk$DonePages" "count" "I" ∈ TT := tt_m (List.mem_of_getElem? (i := 281) (by decide +kernel)) rfl
theorem kf_X7_190 : Cond.fieldLink RX7 190 "PageDesk$DonePages" "count" "I" ∈ TT := tt_m (List.mem_of_getElem? (i := 282) (by decide +kernel)) rfl
theorem kk_X7_52 : Cond.classLink RX7 52 RX3 ∈ TT := tt_m (List.mem_of_getElem? (i := 288) (by decide +kernel)) rfl
theorem kN_X3 : Cond.instantiable RX3 7 ∈ TT := tt_m (List.mem_of_getElem? (i := 289) (by decide +kernel)) rfl
theorem km_X7_54 : Cond.methodLink RX7 54 yX3_init ∈ TT := tt_m (List.mem_of_getElem? (i := 290) (by decide +kernel)) rfl
theorem kI_X3_init : Cond.instanceMethod yX3_init ∈ TT := tt_m (List.mem_of_getElem? (i := 291) (by decide +kernel)) rfl
theorem kC_X3_init : Cond.code yX3_init cX3_init 2 none ∈ TT := tt_m (List.mem_of_getElem? (i := 292) (by decide +kernel)) rfl
theorem km_X3_1 : Cond.methodLink RX3 1 (⟨"java/lang/Object", "<init>", "()V"⟩ : MethodName) ∈ TT := tt_m (List.mem_of_getElem? (i := 293) (by decide +kernel)) rfl
theorem kk_X3_9 : Cond.classLink RX3 9 RX2 ∈ TT := tt_m (List.mem_of_getElem? (i := 294) (by decide +kernel)) rfl
theorem ko_X2 : Cond.arrayOver (.object "PageDesk$Other") ∈ lw_tbl := List.mem_of_getElem? (i := 295) (by decide +kernel)
theorem kN_X2 : Cond.instantiable RX2 7 ∈ TT := tt_m (List.mem_of_getElem? (i := 296) (by decide +kernel)) rfl
theorem kn_X3_19 : Cond.methodLinkNest RX3 19 yX2_init "PageDesk" ∈ lw_tbl := List.mem_of_getElem? (i := 297) (by decide +kernel)
theorem kI_X2_init : Cond.instanceMethod yX2_init ∈ TT := tt_m (List.mem_of_getElem? (i := 298) (by decide +kernel)) rfl
theorem kC_X2_init : Cond.code yX2_init cX2_init 1 none ∈ TT := tt_m (List.mem_of_getElem? (i := 299) (by decide +kernel)) rfl
theorem km_X2_1 : Cond.methodLink RX2 1 (⟨"java/lang/Object", "<init>", "()V"⟩ : MethodName) ∈ TT := tt_m (List.mem_of_getElem? (i := 300) (by decide +kernel)) rfl
theorem kf_X3_36 : Cond.fieldLink RX3 36 "PageDesk$Other" "family" "I" ∈ TT := tt_m (List.mem_of_getElem? (i := 301) (by decide +kernel)) rfl
theorem kf_X3_40 : Cond.fieldLink RX3 40 "PageDesk$Other" "group" "I" ∈ TT := tt_m (List.mem_of_getElem? (i := 302) (by decide +kernel)) rfl
theorem kf_X3_44 : Cond.fieldLink RX3 44 "PageDesk$Other" "value" "I" ∈ TT := tt_m (List.mem_of_getElem? (i := 303) (by decide +kernel)) rfl
theorem kf_X3_48 : Cond.fieldLink RX3 48 "PageDesk$Other" "end" "I" ∈ TT := tt_m (List.mem_of_getElem? (i := 304) (by decide +kernel)) rfl
theorem kf_X3_52 : Cond.fieldLink RX3 52 "PageDesk$Other" "signed" "Z" ∈ TT := tt_m (List.mem_of_getElem? (i := 305) (by decide +kernel)) rfl
theorem kf_X3_53 : Cond.fieldLink RX3 53 "PageDesk$Other" "dataStored" "I" ∈ TT := tt_m (List.mem_of_getElem? (i := 306) (by decide +kernel)) rfl
theorem kf_X3_59 : Cond.fieldLink RX3 59 "PageDesk$Other" "dataToCome" "I" ∈ TT := tt_m (List.mem_of_getElem? (i := 307) (by decide +kernel)) rfl
theorem ka_byte : Cond.arrayClass .byte ∈ TT := tt_m (List.mem_of_getElem? (i := 323) (by decide +kernel)) rfl
theorem kf_X3_11 : Cond.fieldLink RX3 11 "PageDesk$OtherQueue" "row" "[LPageDesk$Other;" ∈ TT := tt_m (List.mem_of_getElem? (i := 324) (by decide +kernel)) rfl
theorem kf_X3_15 : Cond.fieldLink RX3 15 "PageDesk$OtherQueue" "store" "[B" ∈ TT := tt_m (List.mem_of_getElem? (i := 325) (by decide +kernel)) rfl
theorem kf_X3_20 : Cond.fieldLink RX3 20 "PageDesk$OtherQueue" "count" "I" ∈ TT := tt_m (List.mem_of_getElem? (i := 326) (by decide +kernel)) rfl
theorem kf_X7_126 : Cond.fieldLink RX7 126 "PageDesk$OtherQueue" "count" "I" ∈ TT := tt_m (List.mem_of_getElem? (i := 327) (by decide +kernel)) rfl
theorem kf_X3_28 : Cond.fieldLink RX3 28 "PageDesk$OtherQueue" "first" "I" ∈ TT := tt_m (List.mem_of_getElem? (i := 328) (by decide +kernel)) rfl
theorem kf_X3_65 : Cond.fieldLink RX3 65 "PageDesk$OtherQueue" "storeStart" "I" ∈ TT := tt_m (List.mem_of_getElem? (i := 329) (by decide +kernel)) rfl
theorem kf_X3_62 : Cond.fieldLink RX3 62 "PageDesk$OtherQueue" "stored" "I" ∈ TT := tt_m (List.mem_of_getElem? (i := 330) (by decide +kernel)) rfl
theorem kf_X3_24 : Cond.fieldLink RX3 24 "PageDesk$OtherQueue" "latestIsLost" "Z" ∈ TT := tt_m (List.mem_of_getElem? (i := 331) (by decide +kernel)) rfl
theorem km_X7_63 : Cond.methodLink RX7 63 yJ7_fill_53178 ∈ TT := tt_m (List.mem_of_getElem? (i := 347) (by decide +kernel)) rfl
theorem kS_J7_fill_53178 : Cond.static yJ7_fill_53178 ∈ TT := tt_m (List.mem_of_getElem? (i := 348) (by decide +kernel)) rfl
theorem kC_J7_fill_53178 : Cond.code yJ7_fill_53178 cJ7_fill_53178 4 none ∈ TT := tt_m (List.mem_of_getElem? (i := 349) (by decide +kernel)) rfl
theorem km_X7_69 : Cond.methodLink RX7 69 yX7_reset ∈ TT := tt_m (List.mem_of_getElem? (i := 350) (by decide +kernel)) rfl
theorem kI_X7_reset : Cond.instanceMethod yX7_reset ∈ TT := tt_m (List.mem_of_getElem? (i := 352) (by decide +kernel)) rfl
theorem kC_X7_reset : Cond.code yX7_reset cX7_reset 1 none ∈ TT := tt_m (List.mem_of_getElem? (i := 353) (by decide +kernel)) rfl
theorem km_X7_218 : Cond.methodLink RX7 218 yX4_choose ∈ TT := tt_m (List.mem_of_getElem? (i := 354) (by decide +kernel)) rfl
theorem kI_X4_choose : Cond.instanceMethod yX4_choose ∈ TT := tt_m (List.mem_of_getElem? (i := 355) (by decide +kernel)) rfl
theorem ks_X4_choose : Cond.selects RX4 yX4_choose yX4_choose ∈ TT := tt_m (List.mem_of_getElem? (i := 356) (by decide +kernel)) rfl
theorem kC_X4_choose : Cond.code yX4_choose cX4_choose 4 none ∈ TT := tt_m (List.mem_of_getElem? (i := 357) (by decide +kernel)) rfl
theorem km_X4_24 : Cond.methodLink RX4 24 yX4_longSide ∈ TT := tt_m (List.mem_of_getElem? (i := 358) (by decide +kernel)) rfl
theorem kI_X4_longSide : Cond.instanceMethod yX4_longSide ∈ TT := tt_m (List.mem_of_getElem? (i := 360) (by decide +kernel)) rfl
theorem kC_X4_longSide : Cond.code yX4_longSide cX4_longSide 1 (some .int) ∈ TT := tt_m (List.mem_of_getElem? (i := 361) (by decide +kernel)) rfl
theorem kc_X4_41 : Cond.constant RX4 41 (75600) ∈ TT := tt_m (List.mem_of_getElem? (i := 362) (by decide +kernel)) rfl
theorem kc_X4_42 : Cond.constant RX4 42 (100800) ∈ TT := tt_m (List.mem_of_getElem? (i := 363) (by decide +kernel)) rfl
theorem kc_X4_43 : Cond.constant RX4 43 (122400) ∈ TT := tt_m (List.mem_of_getElem? (i := 364) (by decide +kernel)) rfl
theorem kc_X4_44 : Cond.constant RX4 44 (84189) ∈ TT := tt_m (List.mem_of_getElem? (i := 365) (by decide +kernel)) rfl
theorem kc_X4_38 : Cond.constant RX4 38 (79200) ∈ TT := tt_m (List.mem_of_getElem? (i := 366) (by decide +kernel)) rfl
theorem km_X4_28 : Cond.methodLink RX4 28 yX4_shortSide ∈ TT := tt_m (List.mem_of_getElem? (i := 367) (by decide +kernel)) rfl
theorem kI_X4_shortSide : Cond.instanceMethod yX4_shortSide ∈ TT := tt_m (List.mem_of_getElem? (i := 369) (by decide +kernel)) rfl
theorem kC_X4_shortSide : Cond.code yX4_shortSide cX4_shortSide 1 (some .int) ∈ TT := tt_m (List.mem_of_getElem? (i := 370) (by decide +kernel)) rfl
theorem kc_X4_37 : Cond.constant RX4 37 (52200) ∈ TT := tt_m (List.mem_of_getElem? (i := 371) (by decide +kernel)) rfl
theorem kc_X4_39 : Cond.constant RX4 39 (59528) ∈ TT := tt_m (List.mem_of_getElem? (i := 372) (by decide +kernel)) rfl
theorem kc_X4_40 : Cond.constant RX4 40 (61200) ∈ TT := tt_m (List.mem_of_getElem? (i := 373) (by decide +kernel)) rfl
theorem km_X7_222 : Cond.methodLink RX7 222 yX7_setDefaults ∈ TT := tt_m (List.mem_of_getElem? (i := 374) (by decide +kernel)) rfl
theorem kI_X7_setDefaults : Cond.instanceMethod yX7_setDefaults ∈ TT := tt_m (List.mem_of_getElem? (i := 376) (by decide +kernel)) rfl
theorem kC_X7_setDefaults : Cond.code yX7_setDefaults cX7_setDefaults 1 none ∈ TT := tt_m (List.mem_of_getElem? (i := 377) (by decide +kernel)) rfl
theorem km_X7_225 : Cond.methodLink RX7 225 yX1_home ∈ TT := tt_m (List.mem_of_getElem? (i := 378) (by decide +kernel)) rfl
theorem kI_X1_home : Cond.instanceMethod yX1_home ∈ TT := tt_m (List.mem_of_getElem? (i := 379) (by decide +kernel)) rfl
theorem ks_X1_home : Cond.selects RX1 yX1_home yX1_home ∈ TT := tt_m (List.mem_of_getElem? (i := 380) (by decide +kernel)) rfl
theorem kC_X1_home : Cond.code yX1_home cX1_home 1 (some .int) ∈ TT := tt_m (List.mem_of_getElem? (i := 381) (by decide +kernel)) rfl
theorem km_X7_84 : Cond.methodLink RX7 84 yX7_setY ∈ TT := tt_m (List.mem_of_getElem? (i := 382) (by decide +kernel)) rfl
theorem kI_X7_setY : Cond.instanceMethod yX7_setY ∈ TT := tt_m (List.mem_of_getElem? (i := 384) (by decide +kernel)) rfl
theorem kC_X7_setY : Cond.code yX7_setY cX7_setY 3 none ∈ TT := tt_m (List.mem_of_getElem? (i := 385) (by decide +kernel)) rfl
theorem km_X7_98 : Cond.methodLink RX7 98 yX7_within ∈ TT := tt_m (List.mem_of_getElem? (i := 386) (by decide +kernel)) rfl
theorem kS_X7_within : Cond.static yX7_within ∈ TT := tt_m (List.mem_of_getElem? (i := 387) (by decide +kernel)) rfl
theorem kC_X7_within : Cond.code yX7_within cX7_within 4 (some .int) ∈ TT := tt_m (List.mem_of_getElem? (i := 388) (by decide +kernel)) rfl
theorem kf_X7_10 : Cond.fieldLink RX7 10 "PageDesk" "parser" "LPageDesk$Parser;" ∈ TT := tt_m (List.mem_of_getElem? (i := 389) (by decide +kernel)) rfl
theorem kf_X7_19 : Cond.fieldLink RX7 19 "PageDesk" "paper" "LPageDesk$Paper;" ∈ TT := tt_m (List.mem_of_getElem? (i := 390) (by decide +kernel)) rfl
theorem kf_X7_26 : Cond.fieldLink RX7 26 "PageDesk" "layout" "LPageDesk$Layout;" ∈ TT := tt_m (List.mem_of_getElem? (i := 391) (by decide +kernel)) rfl
theorem kf_X7_30 : Cond.fieldLink RX7 30 "PageDesk" "slots" "[LPageDesk$Layout;" ∈ TT := tt_m (List.mem_of_getElem? (i := 392) (by decide +kernel)) rfl
theorem kf_X7_34 : Cond.fieldLink RX7 34 "PageDesk" "slotFilled" "[Z" ∈ TT := tt_m (List.mem_of_getElem? (i := 393) (by decide +kernel)) rfl
theorem kf_X7_41 : Cond.fieldLink RX7 41 "PageDesk" "sheet" "LPageDesk$Sheet;" ∈ TT := tt_m (List.mem_of_getElem? (i := 394) (by decide +kernel)) rfl
theorem kf_X7_48 : Cond.fieldLink RX7 48 "PageDesk" "donePages" "LPageDesk$DonePages;" ∈ TT := tt_m (List.mem_of_getElem? (i := 395) (by decide +kernel)) rfl
theorem kf_X7_55 : Cond.fieldLink RX7 55 "PageDesk" "others" "LPageDesk$OtherQueue;" ∈ TT := tt_m (List.mem_of_getElem? (i := 396) (by decide +kernel)) rfl
theorem kf_X7_59 : Cond.fieldLink RX7 59 "PageDesk" "toldSteps" "[I" ∈ TT := tt_m (List.mem_of_getElem? (i := 397) (by decide +kernel)) rfl
theorem kf_X7_191 : Cond.fieldLink RX7 191 "PageDesk" "bytesCome" "I" ∈ TT := tt_m (List.mem_of_getElem? (i := 398) (by decide +kernel)) rfl
theorem km_L_38 : Cond.methodLink RL 38 yX7_feed ∈ TT := tt_m (List.mem_of_getElem? (i := 420) (by decide +kernel)) rfl
theorem kI_X7_feed : Cond.instanceMethod yX7_feed ∈ TT := tt_m (List.mem_of_getElem? (i := 421) (by decide +kernel)) rfl
theorem ks_X7_feed : Cond.selects RX7 yX7_feed yX7_feed ∈ TT := tt_m (List.mem_of_getElem? (i := 422) (by decide +kernel)) rfl
theorem kC_X7_feed : Cond.code yX7_feed cX7_feed 5 (some .boolean) ∈ TT := tt_m (List.mem_of_getElem? (i := 423) (by decide +kernel)) rfl
theorem km_X7_72 : Cond.methodLink RX7 72 yX7_byteComes ∈ TT := tt_m (List.mem_of_getElem? (i := 424) (by decide +kernel)) rfl
theorem kI_X7_byteComes : Cond.instanceMethod yX7_byteComes ∈ TT := tt_m (List.mem_of_getElem? (i := 426) (by decide +kernel)) rfl
theorem kC_X7_byteComes : Cond.code yX7_byteComes cX7_byteComes 2 none ∈ TT := tt_m (List.mem_of_getElem? (i := 427) (by decide +kernel)) rfl
theorem km_X7_200 : Cond.methodLink RX7 200 yX5_accept ∈ TT := tt_m (List.mem_of_getElem? (i := 428) (by decide +kernel)) rfl
theorem kI_X5_accept : Cond.instanceMethod yX5_accept ∈ TT := tt_m (List.mem_of_getElem? (i := 429) (by decide +kernel)) rfl
theorem ks_X5_accept : Cond.selects RX5 yX5_accept yX5_accept ∈ TT := tt_m (List.mem_of_getElem? (i := 430) (by decide +kernel)) rfl
theorem kC_X5_accept : Cond.code yX5_accept cX5_accept 2 (some .int) ∈ TT := tt_m (List.mem_of_getElem? (i := 431) (by decide +kernel)) rfl
theorem km_X5_27 : Cond.methodLink RX5 27 yX5_hasText ∈ TT := tt_m (List.mem_of_getElem? (i := 432) (by decide +kernel)) rfl
theorem kI_X5_hasText : Cond.instanceMethod yX5_hasText ∈ TT := tt_m (List.mem_of_getElem? (i := 433) (by decide +kernel)) rfl
theorem ks_X5_hasText : Cond.selects RX5 yX5_hasText yX5_hasText ∈ TT := tt_m (List.mem_of_getElem? (i := 434) (by decide +kernel)) rfl
theorem kC_X5_hasText : Cond.code yX5_hasText cX5_hasText 1 (some .boolean) ∈ TT := tt_m (List.mem_of_getElem? (i := 435) (by decide +kernel)) rfl
theorem km_X5_31 : Cond.methodLink RX5 31 yX5_behindEsc ∈ TT := tt_m (List.mem_of_getElem? (i := 436) (by decide +kernel)) rfl
theorem kI_X5_behindEsc : Cond.instanceMethod yX5_behindEsc ∈ TT := tt_m (List.mem_of_getElem? (i := 438) (by decide +kernel)) rfl
theorem kC_X5_behindEsc : Cond.code yX5_behindEsc cX5_behindEsc 2 (some .int) ∈ TT := tt_m (List.mem_of_getElem? (i := 439) (by decide +kernel)) rfl
theorem km_X5_35 : Cond.methodLink RX5 35 yX5_behindFamily ∈ TT := tt_m (List.mem_of_getElem? (i := 440) (by decide +kernel)) rfl
theorem kI_X5_behindFamily : Cond.instanceMethod yX5_behindFamily ∈ TT := tt_m (List.mem_of_getElem? (i := 442) (by decide +kernel)) rfl
theorem kC_X5_behindFamily : Cond.code yX5_behindFamily cX5_behindFamily 2 (some .int) ∈ TT := tt_m (List.mem_of_getElem? (i := 443) (by decide +kernel)) rfl
theorem km_X5_41 : Cond.methodLink RX5 41 yX5_beginField ∈ TT := tt_m (List.mem_of_getElem? (i := 444) (by decide +kernel)) rfl
theorem kI_X5_beginField : Cond.instanceMethod yX5_beginField ∈ TT := tt_m (List.mem_of_getElem? (i := 446) (by decide +kernel)) rfl
theorem kC_X5_beginField : Cond.code yX5_beginField cX5_beginField 1 none ∈ TT := tt_m (List.mem_of_getElem? (i := 447) (by decide +kernel)) rfl
theorem km_X5_38 : Cond.methodLink RX5 38 yX5_inField ∈ TT := tt_m (List.mem_of_getElem? (i := 448) (by decide +kernel)) rfl
theorem kI_X5_inField : Cond.instanceMethod yX5_inField ∈ TT := tt_m (List.mem_of_getElem? (i := 450) (by decide +kernel)) rfl
theorem kC_X5_inField : Cond.code yX5_inField cX5_inField 2 (some .int) ∈ TT := tt_m (List.mem_of_getElem? (i := 451) (by decide +kernel)) rfl
theorem km_X5_63 : Cond.methodLink RX5 63 yX5_endField ∈ TT := tt_m (List.mem_of_getElem? (i := 452) (by decide +kernel)) rfl
theorem kI_X5_endField : Cond.instanceMethod yX5_endField ∈ TT := tt_m (List.mem_of_getElem? (i := 454) (by decide +kernel)) rfl
theorem kC_X5_endField : Cond.code yX5_endField cX5_endField 3 none ∈ TT := tt_m (List.mem_of_getElem? (i := 455) (by decide +kernel)) rfl
theorem km_X5_67 : Cond.methodLink RX5 67 yX5_belongsToValue ∈ TT := tt_m (List.mem_of_getElem? (i := 456) (by decide +kernel)) rfl
theorem kI_X5_belongsToValue : Cond.instanceMethod yX5_belongsToValue ∈ TT := tt_m (List.mem_of_getElem? (i := 458) (by decide +kernel)) rfl
theorem kC_X5_belongsToValue : Cond.code yX5_belongsToValue cX5_belongsToValue 2 (some .boolean) ∈ TT := tt_m (List.mem_of_getElem? (i := 459) (by decide +kernel)) rfl
theorem km_X5_71 : Cond.methodLink RX5 71 yX5_digit ∈ TT := tt_m (List.mem_of_getElem? (i := 460) (by decide +kernel)) rfl
theorem kI_X5_digit : Cond.instanceMethod yX5_digit ∈ TT := tt_m (List.mem_of_getElem? (i := 462) (by decide +kernel)) rfl
theorem kC_X5_digit : Cond.code yX5_digit cX5_digit 2 none ∈ TT := tt_m (List.mem_of_getElem? (i := 463) (by decide +kernel)) rfl
theorem km_X5_74 : Cond.methodLink RX5 74 yJ9_min_7cf53 ∈ TT := tt_m (List.mem_of_getElem? (i := 464) (by decide +kernel)) rfl
theorem kS_J9_min_7cf53 : Cond.static yJ9_min_7cf53 ∈ TT := tt_m (List.mem_of_getElem? (i := 465) (by decide +kernel)) rfl
theorem kC_J9_min_7cf53 : Cond.code yJ9_min_7cf53 cJ9_min_7cf53 2 (some .int) ∈ TT := tt_m (List.mem_of_getElem? (i := 466) (by decide +kernel)) rfl
theorem km_X7_203 : Cond.methodLink RX7 203 yX7_character ∈ TT := tt_m (List.mem_of_getElem? (i := 467) (by decide +kernel)) rfl
theorem kI_X7_character : Cond.instanceMethod yX7_character ∈ TT := tt_m (List.mem_of_getElem? (i := 469) (by decide +kernel)) rfl
theorem kC_X7_character : Cond.code yX7_character cX7_character 4 none ∈ TT := tt_m (List.mem_of_getElem? (i := 470) (by decide +kernel)) rfl
theorem km_X7_242 : Cond.methodLink RX7 242 yX7_carriageReturn ∈ TT := tt_m (List.mem_of_getElem? (i := 471) (by decide +kernel)) rfl
theorem kI_X7_carriageReturn : Cond.instanceMethod yX7_carriageReturn ∈ TT := tt_m (List.mem_of_getElem? (i := 473) (by decide +kernel)) rfl
theorem kC_X7_carriageReturn : Cond.code yX7_carriageReturn cX7_carriageReturn 1 none ∈ TT := tt_m (List.mem_of_getElem? (i := 474) (by decide +kernel)) rfl
theorem km_X7_245 : Cond.methodLink RX7 245 yX7_lineFeed ∈ TT := tt_m (List.mem_of_getElem? (i := 475) (by decide +kernel)) rfl
theorem kI_X7_lineFeed : Cond.instanceMethod yX7_lineFeed ∈ TT := tt_m (List.mem_of_getElem? (i := 477) (by decide +kernel)) rfl
theorem kC_X7_lineFeed : Cond.code yX7_lineFeed cX7_lineFeed 3 none ∈ TT := tt_m (List.mem_of_getElem? (i := 478) (by decide +kernel)) rfl
theorem km_X7_229 : Cond.methodLink RX7 229 yX7_eject ∈ TT := tt_m (List.mem_of_getElem? (i := 479) (by decide +kernel)) rfl
theorem kI_X7_eject : Cond.instanceMethod yX7_eject ∈ TT := tt_m (List.mem_of_getElem? (i := 481) (by decide +kernel)) rfl
theorem kC_X7_eject : Cond.code yX7_eject cX7_eject 1 none ∈ TT := tt_m (List.mem_of_getElem? (i := 482) (by decide +kernel)) rfl
theorem km_X7_235 : Cond.methodLink RX7 235 yX0_add ∈ TT := tt_m (List.mem_of_getElem? (i := 483) (by decide +kernel)) rfl
theorem kI_X0_add : Cond.instanceMethod yX0_add ∈ TT := tt_m (List.mem_of_getElem? (i := 484) (by decide +kernel)) rfl
theorem ks_X0_add : Cond.selects RX0 yX0_add yX0_add ∈ TT := tt_m (List.mem_of_getElem? (i := 485) (by decide +kernel)) rfl
theorem kC_X0_add : Cond.code yX0_add cX0_add 4 none ∈ TT := tt_m (List.mem_of_getElem? (i := 486) (by decide +kernel)) rfl
theorem km_X0_17 : Cond.methodLink RX0 17 yJ9_floorMod_7cf53 ∈ TT := tt_m (List.mem_of_getElem? (i := 487) (by decide +kernel)) rfl
theorem kS_J9_floorMod_7cf53 : Cond.static yJ9_floorMod_7cf53 ∈ TT := tt_m (List.mem_of_getElem? (i := 488) (by decide +kernel)) rfl
theorem kC_J9_floorMod_7cf53 : Cond.code yJ9_floorMod_7cf53 cJ9_floorMod_7cf53 3 (some .int) ∈ TT := tt_m (List.mem_of_getElem? (i := 489) (by decide +kernel)) rfl
theorem km_X7_239 : Cond.methodLink RX7 239 yX6_clear ∈ TT := tt_m (List.mem_of_getElem? (i := 490) (by decide +kernel)) rfl
theorem kI_X6_clear : Cond.instanceMethod yX6_clear ∈ TT := tt_m (List.mem_of_getElem? (i := 491) (by decide +kernel)) rfl
theorem ks_X6_clear : Cond.selects RX6 yX6_clear yX6_clear ∈ TT := tt_m (List.mem_of_getElem? (i := 492) (by decide +kernel)) rfl
theorem kC_X6_clear : Cond.code yX6_clear cX6_clear 1 none ∈ TT := tt_m (List.mem_of_getElem? (i := 493) (by decide +kernel)) rfl
theorem km_X7_248 : Cond.methodLink RX7 248 yX6_put ∈ TT := tt_m (List.mem_of_getElem? (i := 494) (by decide +kernel)) rfl
theorem kI_X6_put : Cond.instanceMethod yX6_put ∈ TT := tt_m (List.mem_of_getElem? (i := 495) (by decide +kernel)) rfl
theorem ks_X6_put : Cond.selects RX6 yX6_put yX6_put ∈ TT := tt_m (List.mem_of_getElem? (i := 496) (by decide +kernel)) rfl
theorem kC_X6_put : Cond.code yX6_put cX6_put 5 none ∈ TT := tt_m (List.mem_of_getElem? (i := 497) (by decide +kernel)) rfl
theorem km_X7_80 : Cond.methodLink RX7 80 yX7_setX ∈ TT := tt_m (List.mem_of_getElem? (i := 498) (by decide +kernel)) rfl
theorem kI_X7_setX : Cond.instanceMethod yX7_setX ∈ TT := tt_m (List.mem_of_getElem? (i := 500) (by decide +kernel)) rfl
theorem kC_X7_setX : Cond.code yX7_setX cX7_setX 3 none ∈ TT := tt_m (List.mem_of_getElem? (i := 501) (by decide +kernel)) rfl
theorem km_X7_206 : Cond.methodLink RX7 206 yX7_controlCode ∈ TT := tt_m (List.mem_of_getElem? (i := 502) (by decide +kernel)) rfl
theorem kI_X7_controlCode : Cond.instanceMethod yX7_controlCode ∈ TT := tt_m (List.mem_of_getElem? (i := 504) (by decide +kernel)) rfl
theorem kC_X7_controlCode : Cond.code yX7_controlCode cX7_controlCode 2 none ∈ TT := tt_m (List.mem_of_getElem? (i := 505) (by decide +kernel)) rfl
theorem km_X7_252 : Cond.methodLink RX7 252 yX7_backspace ∈ TT := tt_m (List.mem_of_getElem? (i := 506) (by decide +kernel)) rfl
theorem kI_X7_backspace : Cond.instanceMethod yX7_backspace ∈ TT := tt_m (List.mem_of_getElem? (i := 508) (by decide +kernel)) rfl
theorem kC_X7_backspace : Cond.code yX7_backspace cX7_backspace 2 none ∈ TT := tt_m (List.mem_of_getElem? (i := 509) (by decide +kernel)) rfl
theorem km_X7_255 : Cond.methodLink RX7 255 yX7_tab ∈ TT := tt_m (List.mem_of_getElem? (i := 510) (by decide +kernel)) rfl
theorem kI_X7_tab : Cond.instanceMethod yX7_tab ∈ TT := tt_m (List.mem_of_getElem? (i := 512) (by decide +kernel)) rfl
theorem kC_X7_tab : Cond.code yX7_tab cX7_tab 5 none ∈ TT := tt_m (List.mem_of_getElem? (i := 513) (by decide +kernel)) rfl
theorem kc_X7_264 : Cond.constantLong RX7 264 (8) ∈ TT := tt_m (List.mem_of_getElem? (i := 514) (by decide +kernel)) rfl
theorem km_X7_258 : Cond.methodLink RX7 258 yX7_returnIfLineEndsSo ∈ TT := tt_m (List.mem_of_getElem? (i := 515) (by decide +kernel)) rfl
theorem kI_X7_returnIfLineEndsSo : Cond.instanceMethod yX7_returnIfLineEndsSo ∈ TT := tt_m (List.mem_of_getElem? (i := 517) (by decide +kernel)) rfl
theorem kC_X7_returnIfLineEndsSo : Cond.code yX7_returnIfLineEndsSo cX7_returnIfLineEndsSo 1 none ∈ TT := tt_m (List.mem_of_getElem? (i := 518) (by decide +kernel)) rfl
theorem km_X7_261 : Cond.methodLink RX7 261 yX7_returnWithLineEnd ∈ TT := tt_m (List.mem_of_getElem? (i := 519) (by decide +kernel)) rfl
theorem kI_X7_returnWithLineEnd : Cond.instanceMethod yX7_returnWithLineEnd ∈ TT := tt_m (List.mem_of_getElem? (i := 521) (by decide +kernel)) rfl
theorem kC_X7_returnWithLineEnd : Cond.code yX7_returnWithLineEnd cX7_returnWithLineEnd 1 none ∈ TT := tt_m (List.mem_of_getElem? (i := 522) (by decide +kernel)) rfl
theorem km_X7_209 : Cond.methodLink RX7 209 yX7_shortSequence ∈ TT := tt_m (List.mem_of_getElem? (i := 523) (by decide +kernel)) rfl
theorem kI_X7_shortSequence : Cond.instanceMethod yX7_shortSequence ∈ TT := tt_m (List.mem_of_getElem? (i := 525) (by decide +kernel)) rfl
theorem kC_X7_shortSequence : Cond.code yX7_shortSequence cX7_shortSequence 2 none ∈ TT := tt_m (List.mem_of_getElem? (i := 526) (by decide +kernel)) rfl
theorem km_X7_197 : Cond.methodLink RX7 197 yX6_isDue ∈ TT := tt_m (List.mem_of_getElem? (i := 527) (by decide +kernel)) rfl
theorem kI_X6_isDue : Cond.instanceMethod yX6_isDue ∈ TT := tt_m (List.mem_of_getElem? (i := 528) (by decide +kernel)) rfl
theorem ks_X6_isDue : Cond.selects RX6 yX6_isDue yX6_isDue ∈ TT := tt_m (List.mem_of_getElem? (i := 529) (by decide +kernel)) rfl
theorem kC_X6_isDue : Cond.code yX6_isDue cX6_isDue 1 (some .boolean) ∈ TT := tt_m (List.mem_of_getElem? (i := 530) (by decide +kernel)) rfl
theorem km_X7_212 : Cond.methodLink RX7 212 yX7_command ∈ TT := tt_m (List.mem_of_getElem? (i := 531) (by decide +kernel)) rfl
theorem kI_X7_command : Cond.instanceMethod yX7_command ∈ TT := tt_m (List.mem_of_getElem? (i := 533) (by decide +kernel)) rfl
theorem kC_X7_command : Cond.code yX7_command cX7_command 6 none ∈ TT := tt_m (List.mem_of_getElem? (i := 534) (by decide +kernel)) rfl
theorem kc_X7_269 : Cond.constantLong RX7 269 (10000) ∈ TT := tt_m (List.mem_of_getElem? (i := 535) (by decide +kernel)) rfl
theorem km_X7_277 : Cond.methodLink RX7 277 yX7_pageCommand ∈ TT := tt_m (List.mem_of_getElem? (i := 536) (by decide +kernel)) rfl
theorem kI_X7_pageCommand : Cond.instanceMethod yX7_pageCommand ∈ TT := tt_m (List.mem_of_getElem? (i := 538) (by decide +kernel)) rfl
theorem kC_X7_pageCommand : Cond.code yX7_pageCommand cX7_pageCommand 5 (some .boolean) ∈ TT := tt_m (List.mem_of_getElem? (i := 539) (by decide +kernel)) rfl
theorem km_X7_309 : Cond.methodLink RX7 309 yX4_isSize ∈ TT := tt_m (List.mem_of_getElem? (i := 540) (by decide +kernel)) rfl
theorem kS_X4_isSize : Cond.static yX4_isSize ∈ TT := tt_m (List.mem_of_getElem? (i := 541) (by decide +kernel)) rfl
theorem kC_X4_isSize : Cond.code yX4_isSize cX4_isSize 2 (some .boolean) ∈ TT := tt_m (List.mem_of_getElem? (i := 542) (by decide +kernel)) rfl
theorem kc_X4_7 : Cond.constantLong RX4 7 (2) ∈ TT := tt_m (List.mem_of_getElem? (i := 543) (by decide +kernel)) rfl
theorem kc_X4_9 : Cond.constantLong RX4 9 (3) ∈ TT := tt_m (List.mem_of_getElem? (i := 544) (by decide +kernel)) rfl
theorem kc_X4_11 : Cond.constantLong RX4 11 (6) ∈ TT := tt_m (List.mem_of_getElem? (i := 545) (by decide +kernel)) rfl
theorem kc_X4_13 : Cond.constantLong RX4 13 (26) ∈ TT := tt_m (List.mem_of_getElem? (i := 546) (by decide +kernel)) rfl
theorem km_X7_312 : Cond.methodLink RX7 312 yX7_changePaper ∈ TT := tt_m (List.mem_of_getElem? (i := 547) (by decide +kernel)) rfl
theorem kI_X7_changePaper : Cond.instanceMethod yX7_changePaper ∈ TT := tt_m (List.mem_of_getElem? (i := 549) (by decide +kernel)) rfl
theorem kC_X7_changePaper : Cond.code yX7_changePaper cX7_changePaper 3 none ∈ TT := tt_m (List.mem_of_getElem? (i := 550) (by decide +kernel)) rfl
theorem kc_X7_315 : Cond.constantLong RX7 315 (3) ∈ TT := tt_m (List.mem_of_getElem? (i := 551) (by decide +kernel)) rfl
theorem kc_X7_317 : Cond.constantLong RX7 317 (150) ∈ TT := tt_m (List.mem_of_getElem? (i := 552) (by decide +kernel)) rfl
theorem km_X7_319 : Cond.methodLink RX7 319 yX7_setStepDown ∈ TT := tt_m (List.mem_of_getElem? (i := 553) (by decide +kernel)) rfl
theorem kI_X7_setStepDown : Cond.instanceMethod yX7_setStepDown ∈ TT := tt_m (List.mem_of_getElem? (i := 555) (by decide +kernel)) rfl
theorem kC_X7_setStepDown : Cond.code yX7_setStepDown cX7_setStepDown 3 none ∈ TT := tt_m (List.mem_of_getElem? (i := 556) (by decide +kernel)) rfl
theorem km_X7_322 : Cond.methodLink RX7 322 yX7_setLinesPerInch ∈ TT := tt_m (List.mem_of_getElem? (i := 557) (by decide +kernel)) rfl
theorem kI_X7_setLinesPerInch : Cond.instanceMethod yX7_setLinesPerInch ∈ TT := tt_m (List.mem_of_getElem? (i := 559) (by decide +kernel)) rfl
theorem kC_X7_setLinesPerInch : Cond.code yX7_setLinesPerInch cX7_setLinesPerInch 2 none ∈ TT := tt_m (List.mem_of_getElem? (i := 560) (by decide +kernel)) rfl
theorem km_X7_325 : Cond.methodLink RX7 325 yX7_setTop ∈ TT := tt_m (List.mem_of_getElem? (i := 561) (by decide +kernel)) rfl
theorem kI_X7_setTop : Cond.instanceMethod yX7_setTop ∈ TT := tt_m (List.mem_of_getElem? (i := 563) (by decide +kernel)) rfl
theorem kC_X7_setTop : Cond.code yX7_setTop cX7_setTop 3 none ∈ TT := tt_m (List.mem_of_getElem? (i := 564) (by decide +kernel)) rfl
theorem kc_X7_331 : Cond.constantLong RX7 331 (3600) ∈ TT := tt_m (List.mem_of_getElem? (i := 565) (by decide +kernel)) rfl
theorem km_X7_328 : Cond.methodLink RX7 328 yX7_setLength ∈ TT := tt_m (List.mem_of_getElem? (i := 566) (by decide +kernel)) rfl
theorem kI_X7_setLength : Cond.instanceMethod yX7_setLength ∈ TT := tt_m (List.mem_of_getElem? (i := 568) (by decide +kernel)) rfl
theorem kC_X7_setLength : Cond.code yX7_setLength cX7_setLength 3 none ∈ TT := tt_m (List.mem_of_getElem? (i := 569) (by decide +kernel)) rfl
theorem km_X7_281 : Cond.methodLink RX7 281 yX7_spacingCommand ∈ TT := tt_m (List.mem_of_getElem? (i := 570) (by decide +kernel)) rfl
theorem kI_X7_spacingCommand : Cond.instanceMethod yX7_spacingCommand ∈ TT := tt_m (List.mem_of_getElem? (i := 572) (by decide +kernel)) rfl
theorem kC_X7_spacingCommand : Cond.code yX7_spacingCommand cX7_spacingCommand 5 (some .boolean) ∈ TT := tt_m (List.mem_of_getElem? (i := 573) (by decide +kernel)) rfl
theorem kc_X7_333 : Cond.constantLong RX7 333 (60) ∈ TT := tt_m (List.mem_of_getElem? (i := 574) (by decide +kernel)) rfl
theorem km_X7_284 : Cond.methodLink RX7 284 yX7_marginCommand ∈ TT := tt_m (List.mem_of_getElem? (i := 575) (by decide +kernel)) rfl
theorem kI_X7_marginCommand : Cond.instanceMethod yX7_marginCommand ∈ TT := tt_m (List.mem_of_getElem? (i := 577) (by decide +kernel)) rfl
theorem kC_X7_marginCommand : Cond.code yX7_marginCommand cX7_marginCommand 3 (some .boolean) ∈ TT := tt_m (List.mem_of_getElem? (i := 578) (by decide +kernel)) rfl
theorem km_X7_335 : Cond.methodLink RX7 335 yX7_setLeft ∈ TT := tt_m (List.mem_of_getElem? (i := 579) (by decide +kernel)) rfl
theorem kI_X7_setLeft : Cond.instanceMethod yX7_setLeft ∈ TT := tt_m (List.mem_of_getElem? (i := 581) (by decide +kernel)) rfl
theorem kC_X7_setLeft : Cond.code yX7_setLeft cX7_setLeft 3 none ∈ TT := tt_m (List.mem_of_getElem? (i := 582) (by decide +kernel)) rfl
theorem km_X7_338 : Cond.methodLink RX7 338 yX7_setRight ∈ TT := tt_m (List.mem_of_getElem? (i := 583) (by decide +kernel)) rfl
theorem kI_X7_setRight : Cond.instanceMethod yX7_setRight ∈ TT := tt_m (List.mem_of_getElem? (i := 585) (by decide +kernel)) rfl
theorem kC_X7_setRight : Cond.code yX7_setRight cX7_setRight 3 none ∈ TT := tt_m (List.mem_of_getElem? (i := 586) (by decide +kernel)) rfl
theorem km_X7_288 : Cond.methodLink RX7 288 yX7_cursorCommand ∈ TT := tt_m (List.mem_of_getElem? (i := 587) (by decide +kernel)) rfl
theorem kI_X7_cursorCommand : Cond.instanceMethod yX7_cursorCommand ∈ TT := tt_m (List.mem_of_getElem? (i := 589) (by decide +kernel)) rfl
theorem kC_X7_cursorCommand : Cond.code yX7_cursorCommand cX7_cursorCommand 1 (some .boolean) ∈ TT := tt_m (List.mem_of_getElem? (i := 590) (by decide +kernel)) rfl
theorem km_X7_344 : Cond.methodLink RX7 344 yX7_goAcross ∈ TT := tt_m (List.mem_of_getElem? (i := 591) (by decide +kernel)) rfl
theorem kI_X7_goAcross : Cond.instanceMethod yX7_goAcross ∈ TT := tt_m (List.mem_of_getElem? (i := 593) (by decide +kernel)) rfl
theorem kC_X7_goAcross : Cond.code yX7_goAcross cX7_goAcross 4 none ∈ TT := tt_m (List.mem_of_getElem? (i := 594) (by decide +kernel)) rfl
theorem kc_X7_347 : Cond.constantLong RX7 347 (10) ∈ TT := tt_m (List.mem_of_getElem? (i := 595) (by decide +kernel)) rfl
theorem km_X7_349 : Cond.methodLink RX7 349 yX7_goDown ∈ TT := tt_m (List.mem_of_getElem? (i := 596) (by decide +kernel)) rfl
theorem kI_X7_goDown : Cond.instanceMethod yX7_goDown ∈ TT := tt_m (List.mem_of_getElem? (i := 598) (by decide +kernel)) rfl
theorem kC_X7_goDown : Cond.code yX7_goDown cX7_goDown 5 none ∈ TT := tt_m (List.mem_of_getElem? (i := 599) (by decide +kernel)) rfl
theorem km_X7_291 : Cond.methodLink RX7 291 yX7_wrapCommand ∈ TT := tt_m (List.mem_of_getElem? (i := 600) (by decide +kernel)) rfl
theorem kI_X7_wrapCommand : Cond.instanceMethod yX7_wrapCommand ∈ TT := tt_m (List.mem_of_getElem? (i := 602) (by decide +kernel)) rfl
theorem kC_X7_wrapCommand : Cond.code yX7_wrapCommand cX7_wrapCommand 3 (some .boolean) ∈ TT := tt_m (List.mem_of_getElem? (i := 603) (by decide +kernel)) rfl
theorem km_X7_294 : Cond.methodLink RX7 294 yX7_stackCommand ∈ TT := tt_m (List.mem_of_getElem? (i := 604) (by decide +kernel)) rfl
theorem kI_X7_stackCommand : Cond.instanceMethod yX7_stackCommand ∈ TT := tt_m (List.mem_of_getElem? (i := 606) (by decide +kernel)) rfl
theorem kC_X7_stackCommand : Cond.code yX7_stackCommand cX7_stackCommand 3 (some .boolean) ∈ TT := tt_m (List.mem_of_getElem? (i := 607) (by decide +kernel)) rfl
theorem km_X7_341 : Cond.methodLink RX7 341 yX1_push ∈ TT := tt_m (List.mem_of_getElem? (i := 608) (by decide +kernel)) rfl
theorem kI_X1_push : Cond.instanceMethod yX1_push ∈ TT := tt_m (List.mem_of_getElem? (i := 609) (by decide +kernel)) rfl
theorem ks_X1_push : Cond.selects RX1 yX1_push yX1_push ∈ TT := tt_m (List.mem_of_getElem? (i := 610) (by decide +kernel)) rfl
theorem kC_X1_push : Cond.code yX1_push cX1_push 1 none ∈ TT := tt_m (List.mem_of_getElem? (i := 611) (by decide +kernel)) rfl
theorem km_X7_297 : Cond.methodLink RX7 297 yX5_hasText ∈ TT := tt_m (List.mem_of_getElem? (i := 612) (by decide +kernel)) rfl
theorem km_X7_300 : Cond.methodLink RX7 300 yX7_dotCommand ∈ TT := tt_m (List.mem_of_getElem? (i := 613) (by decide +kernel)) rfl
theorem kI_X7_dotCommand : Cond.instanceMethod yX7_dotCommand ∈ TT := tt_m (List.mem_of_getElem? (i := 615) (by decide +kernel)) rfl
theorem kC_X7_dotCommand : Cond.code yX7_dotCommand cX7_dotCommand 1 (some .boolean) ∈ TT := tt_m (List.mem_of_getElem? (i := 616) (by decide +kernel)) rfl
theorem kc_X7_353 : Cond.constantLong RX7 353 (24) ∈ TT := tt_m (List.mem_of_getElem? (i := 617) (by decide +kernel)) rfl
theorem km_X7_303 : Cond.methodLink RX7 303 yX3_add ∈ TT := tt_m (List.mem_of_getElem? (i := 618) (by decide +kernel)) rfl
theorem kI_X3_add : Cond.instanceMethod yX3_add ∈ TT := tt_m (List.mem_of_getElem? (i := 619) (by decide +kernel)) rfl
theorem ks_X3_add : Cond.selects RX3 yX3_add yX3_add ∈ TT := tt_m (List.mem_of_getElem? (i := 620) (by decide +kernel)) rfl
theorem kC_X3_add : Cond.code yX3_add cX3_add 3 none ∈ TT := tt_m (List.mem_of_getElem? (i := 621) (by decide +kernel)) rfl
theorem km_X7_215 : Cond.methodLink RX7 215 yX3_addByte ∈ TT := tt_m (List.mem_of_getElem? (i := 622) (by decide +kernel)) rfl
theorem kI_X3_addByte : Cond.instanceMethod yX3_addByte ∈ TT := tt_m (List.mem_of_getElem? (i := 623) (by decide +kernel)) rfl
theorem ks_X3_addByte : Cond.selects RX3 yX3_addByte yX3_addByte ∈ TT := tt_m (List.mem_of_getElem? (i := 624) (by decide +kernel)) rfl
theorem kC_X3_addByte : Cond.code yX3_addByte cX3_addByte 3 none ∈ TT := tt_m (List.mem_of_getElem? (i := 625) (by decide +kernel)) rfl
theorem km_L_43 : Cond.methodLink RL 43 yX7_advance ∈ TT := tt_m (List.mem_of_getElem? (i := 626) (by decide +kernel)) rfl
theorem kI_X7_advance : Cond.instanceMethod yX7_advance ∈ TT := tt_m (List.mem_of_getElem? (i := 627) (by decide +kernel)) rfl
theorem ks_X7_advance : Cond.selects RX7 yX7_advance yX7_advance ∈ TT := tt_m (List.mem_of_getElem? (i := 628) (by decide +kernel)) rfl
theorem kC_X7_advance : Cond.code yX7_advance cX7_advance 4 (some .boolean) ∈ TT := tt_m (List.mem_of_getElem? (i := 629) (by decide +kernel)) rfl
theorem km_L_48 : Cond.methodLink RL 48 yX7_due ∈ TT := tt_m (List.mem_of_getElem? (i := 630) (by decide +kernel)) rfl
theorem kI_X7_due : Cond.instanceMethod yX7_due ∈ TT := tt_m (List.mem_of_getElem? (i := 631) (by decide +kernel)) rfl
theorem ks_X7_due : Cond.selects RX7 yX7_due yX7_due ∈ TT := tt_m (List.mem_of_getElem? (i := 632) (by decide +kernel)) rfl
theorem kC_X7_due : Cond.code yX7_due cX7_due 1 none ∈ TT := tt_m (List.mem_of_getElem? (i := 633) (by decide +kernel)) rfl
theorem km_L_52 : Cond.methodLink RL 52 yX7_move ∈ TT := tt_m (List.mem_of_getElem? (i := 634) (by decide +kernel)) rfl
theorem kI_X7_move : Cond.instanceMethod yX7_move ∈ TT := tt_m (List.mem_of_getElem? (i := 635) (by decide +kernel)) rfl
theorem ks_X7_move : Cond.selects RX7 yX7_move yX7_move ∈ TT := tt_m (List.mem_of_getElem? (i := 636) (by decide +kernel)) rfl
theorem kC_X7_move : Cond.code yX7_move cX7_move 3 none ∈ TT := tt_m (List.mem_of_getElem? (i := 637) (by decide +kernel)) rfl
theorem km_L_57 : Cond.methodLink RL 57 yX7_keep ∈ TT := tt_m (List.mem_of_getElem? (i := 638) (by decide +kernel)) rfl
theorem kI_X7_keep : Cond.instanceMethod yX7_keep ∈ TT := tt_m (List.mem_of_getElem? (i := 639) (by decide +kernel)) rfl
theorem ks_X7_keep : Cond.selects RX7 yX7_keep yX7_keep ∈ TT := tt_m (List.mem_of_getElem? (i := 640) (by decide +kernel)) rfl
theorem kC_X7_keep : Cond.code yX7_keep cX7_keep 2 (some .boolean) ∈ TT := tt_m (List.mem_of_getElem? (i := 641) (by decide +kernel)) rfl
theorem km_X7_87 : Cond.methodLink RX7 87 yX1_copyFrom ∈ TT := tt_m (List.mem_of_getElem? (i := 642) (by decide +kernel)) rfl
theorem kI_X1_copyFrom : Cond.instanceMethod yX1_copyFrom ∈ TT := tt_m (List.mem_of_getElem? (i := 643) (by decide +kernel)) rfl
theorem ks_X1_copyFrom : Cond.selects RX1 yX1_copyFrom yX1_copyFrom ∈ TT := tt_m (List.mem_of_getElem? (i := 644) (by decide +kernel)) rfl
theorem kC_X1_copyFrom : Cond.code yX1_copyFrom cX1_copyFrom 2 none ∈ TT := tt_m (List.mem_of_getElem? (i := 645) (by decide +kernel)) rfl
theorem km_X1_57 : Cond.methodLink RX1 57 (⟨"java/lang/System", "arraycopy", "(Ljava/lang/Object;ILjava/lang/Object;II)V"⟩ : MethodName) ∈ TT := tt_m (List.mem_of_getElem? (i := 646) (by decide +kernel)) rfl
theorem kS_System_arraycopy : Cond.static (⟨"java/lang/System", "arraycopy", "(Ljava/lang/Object;ILjava/lang/Object;II)V"⟩ : MethodName) ∈ TT := tt_m (List.mem_of_getElem? (i := 647) (by decide +kernel)) rfl
theorem kV_System_arraycopy : Cond.native (⟨"java/lang/System", "arraycopy", "(Ljava/lang/Object;ILjava/lang/Object;II)V"⟩ : MethodName) ∈ TT := tt_m (List.mem_of_getElem? (i := 648) (by decide +kernel)) rfl
theorem km_L_62 : Cond.methodLink RL 62 yX7_bring ∈ TT := tt_m (List.mem_of_getElem? (i := 649) (by decide +kernel)) rfl
theorem kI_X7_bring : Cond.instanceMethod yX7_bring ∈ TT := tt_m (List.mem_of_getElem? (i := 650) (by decide +kernel)) rfl
theorem ks_X7_bring : Cond.selects RX7 yX7_bring yX7_bring ∈ TT := tt_m (List.mem_of_getElem? (i := 651) (by decide +kernel)) rfl
theorem kC_X7_bring : Cond.code yX7_bring cX7_bring 2 (some .boolean) ∈ TT := tt_m (List.mem_of_getElem? (i := 652) (by decide +kernel)) rfl
theorem km_L_86 : Cond.methodLink RL 86 yX7_take ∈ TT := tt_m (List.mem_of_getElem? (i := 653) (by decide +kernel)) rfl
theorem kI_X7_take : Cond.instanceMethod yX7_take ∈ TT := tt_m (List.mem_of_getElem? (i := 654) (by decide +kernel)) rfl
theorem ks_X7_take : Cond.selects RX7 yX7_take yX7_take ∈ TT := tt_m (List.mem_of_getElem? (i := 655) (by decide +kernel)) rfl
theorem kC_X7_take : Cond.code yX7_take cX7_take 1 (some .boolean) ∈ TT := tt_m (List.mem_of_getElem? (i := 656) (by decide +kernel)) rfl
theorem km_X7_138 : Cond.methodLink RX7 138 yX3_removeFirst ∈ TT := tt_m (List.mem_of_getElem? (i := 657) (by decide +kernel)) rfl
theorem kI_X3_removeFirst : Cond.instanceMethod yX3_removeFirst ∈ TT := tt_m (List.mem_of_getElem? (i := 658) (by decide +kernel)) rfl
theorem ks_X3_removeFirst : Cond.selects RX3 yX3_removeFirst yX3_removeFirst ∈ TT := tt_m (List.mem_of_getElem? (i := 659) (by decide +kernel)) rfl
theorem kC_X3_removeFirst : Cond.code yX3_removeFirst cX3_removeFirst 1 (some .boolean) ∈ TT := tt_m (List.mem_of_getElem? (i := 660) (by decide +kernel)) rfl
theorem km_L_95 : Cond.methodLink RL 95 yX7_look ∈ TT := tt_m (List.mem_of_getElem? (i := 661) (by decide +kernel)) rfl
theorem kI_X7_look : Cond.instanceMethod yX7_look ∈ TT := tt_m (List.mem_of_getElem? (i := 662) (by decide +kernel)) rfl
theorem ks_X7_look : Cond.selects RX7 yX7_look yX7_look ∈ TT := tt_m (List.mem_of_getElem? (i := 663) (by decide +kernel)) rfl
theorem kC_X7_look : Cond.code yX7_look cX7_look 2 (some .int) ∈ TT := tt_m (List.mem_of_getElem? (i := 664) (by decide +kernel)) rfl
theorem km_X7_187 : Cond.methodLink RX7 187 yX6_isOverrun ∈ TT := tt_m (List.mem_of_getElem? (i := 665) (by decide +kernel)) rfl
theorem kI_X6_isOverrun : Cond.instanceMethod yX6_isOverrun ∈ TT := tt_m (List.mem_of_getElem? (i := 666) (by decide +kernel)) rfl
theorem ks_X6_isOverrun : Cond.selects RX6 yX6_isOverrun yX6_isOverrun ∈ TT := tt_m (List.mem_of_getElem? (i := 667) (by decide +kernel)) rfl
theorem kC_X6_isOverrun : Cond.code yX6_isOverrun cX6_isOverrun 1 (some .boolean) ∈ TT := tt_m (List.mem_of_getElem? (i := 668) (by decide +kernel)) rfl
theorem km_X7_194 : Cond.methodLink RX7 194 yX5_isUnderWay ∈ TT := tt_m (List.mem_of_getElem? (i := 669) (by decide +kernel)) rfl
theorem kI_X5_isUnderWay : Cond.instanceMethod yX5_isUnderWay ∈ TT := tt_m (List.mem_of_getElem? (i := 670) (by decide +kernel)) rfl
theorem ks_X5_isUnderWay : Cond.selects RX5 yX5_isUnderWay yX5_isUnderWay ∈ TT := tt_m (List.mem_of_getElem? (i := 671) (by decide +kernel)) rfl
theorem kC_X5_isUnderWay : Cond.code yX5_isUnderWay cX5_isUnderWay 1 (some .boolean) ∈ TT := tt_m (List.mem_of_getElem? (i := 672) (by decide +kernel)) rfl
theorem km_L_66 : Cond.methodLink RL 66 yL_glyph ∈ TT := tt_m (List.mem_of_getElem? (i := 673) (by decide +kernel)) rfl
theorem kS_L_glyph : Cond.static yL_glyph ∈ TT := tt_m (List.mem_of_getElem? (i := 674) (by decide +kernel)) rfl
theorem kk_L_13 : Cond.classLink RL 13 "java/lang/IndexOutOfBoundsException" ∈ TT := tt_m (List.mem_of_getElem? (i := 676) (by decide +kernel)) rfl
theorem km_L_7 : Cond.methodLink RL 7 yX7_glyph ∈ TT := tt_m (List.mem_of_getElem? (i := 677) (by decide +kernel)) rfl
theorem kI_X7_glyph : Cond.instanceMethod yX7_glyph ∈ TT := tt_m (List.mem_of_getElem? (i := 678) (by decide +kernel)) rfl
theorem ks_X7_glyph : Cond.selects RX7 yX7_glyph yX7_glyph ∈ TT := tt_m (List.mem_of_getElem? (i := 679) (by decide +kernel)) rfl
theorem kC_X7_glyph : Cond.code yX7_glyph cX7_glyph 3 (some .int) ∈ TT := tt_m (List.mem_of_getElem? (i := 680) (by decide +kernel)) rfl
theorem kk_X7_114 : Cond.classLink RX7 114 "java/lang/IndexOutOfBoundsException" ∈ TT := tt_m (List.mem_of_getElem? (i := 681) (by decide +kernel)) rfl
theorem kN_IndexOutOfBoundsException : Cond.instantiable "java/lang/IndexOutOfBoundsException" 6 ∈ TT := tt_m (List.mem_of_getElem? (i := 682) (by decide +kernel)) rfl
theorem kf_Throwable_198 : Cond.fieldLink "java/lang/Throwable" 198 "java/lang/Throwable" "backtrace" "Ljava/lang/Object;" ∈ TT := tt_m (List.mem_of_getElem? (i := 702) (by decide +kernel)) rfl
theorem kI_Throwable__init_ : Cond.instanceMethod (⟨"java/lang/Throwable", "<init>", "()V"⟩ : MethodName) ∈ TT := tt_m (List.mem_of_getElem? (i := 704) (by decide +kernel)) rfl
theorem km_Throwable_1 : Cond.methodLink "java/lang/Throwable" 1 (⟨"java/lang/Object", "<init>", "()V"⟩ : MethodName) ∈ TT := tt_m (List.mem_of_getElem? (i := 706) (by decide +kernel)) rfl
theorem kf_Throwable_13 : Cond.fieldLink "java/lang/Throwable" 13 "java/lang/Throwable" "UNASSIGNED_STACK" "[Ljava/lang/StackTraceElement;" ∈ TT := tt_m (List.mem_of_getElem? (i := 707) (by decide +kernel)) rfl
theorem kf_Throwable_20 : Cond.fieldLink "java/lang/Throwable" 20 "java/lang/Throwable" "SUPPRESSED_SENTINEL" "Ljava/util/List;" ∈ TT := tt_m (List.mem_of_getElem? (i := 709) (by decide +kernel)) rfl
theorem km_Throwable_27 : Cond.methodLink "java/lang/Throwable" 27 (⟨"java/lang/Throwable", "fillInStackTrace", "()Ljava/lang/Throwable;"⟩ : MethodName) ∈ TT := tt_m (List.mem_of_getElem? (i := 711) (by decide +kernel)) rfl
theorem kI_Throwable_fillInStackTrace : Cond.instanceMethod (⟨"java/lang/Throwable", "fillInStackTrace", "()Ljava/lang/Throwable;"⟩ : MethodName) ∈ TT := tt_m (List.mem_of_getElem? (i := 712) (by decide +kernel)) rfl
theorem km_Throwable_202 : Cond.methodLink "java/lang/Throwable" 202 (⟨"java/lang/Throwable", "fillInStackTrace", "(I)Ljava/lang/Throwable;"⟩ : MethodName) ∈ TT := tt_m (List.mem_of_getElem? (i := 716) (by decide +kernel)) rfl
theorem kN_Throwable : Cond.instantiable "java/lang/Throwable" 6 ∈ TT := tt_m (List.mem_of_getElem? (i := 719) (by decide +kernel)) rfl
theorem kV_Throwable_fillInStackTrace : Cond.native (⟨"java/lang/Throwable", "fillInStackTrace", "(I)Ljava/lang/Throwable;"⟩ : MethodName) ∈ TT := tt_m (List.mem_of_getElem? (i := 720) (by decide +kernel)) rfl
theorem km_X7_116 : Cond.methodLink RX7 116 (⟨"java/lang/IndexOutOfBoundsException", "<init>", "()V"⟩ : MethodName) ∈ TT := tt_m (List.mem_of_getElem? (i := 721) (by decide +kernel)) rfl
theorem kI_IndexOutOfBoundsException__init_ : Cond.instanceMethod (⟨"java/lang/IndexOutOfBoundsException", "<init>", "()V"⟩ : MethodName) ∈ TT := tt_m (List.mem_of_getElem? (i := 722) (by decide +kernel)) rfl
theorem km_IndexOutOfBoundsException_1 : Cond.methodLink "java/lang/IndexOutOfBoundsException" 1 (⟨"java/lang/RuntimeException", "<init>", "()V"⟩ : MethodName) ∈ TT := tt_m (List.mem_of_getElem? (i := 724) (by decide +kernel)) rfl
theorem kI_RuntimeException__init_ : Cond.instanceMethod (⟨"java/lang/RuntimeException", "<init>", "()V"⟩ : MethodName) ∈ TT := tt_m (List.mem_of_getElem? (i := 725) (by decide +kernel)) rfl
theorem km_RuntimeException_1 : Cond.methodLink "java/lang/RuntimeException" 1 (⟨"java/lang/Exception", "<init>", "()V"⟩ : MethodName) ∈ TT := tt_m (List.mem_of_getElem? (i := 727) (by decide +kernel)) rfl
theorem kI_Exception__init_ : Cond.instanceMethod (⟨"java/lang/Exception", "<init>", "()V"⟩ : MethodName) ∈ TT := tt_m (List.mem_of_getElem? (i := 728) (by decide +kernel)) rfl
theorem km_Exception_1 : Cond.methodLink "java/lang/Exception" 1 (⟨"java/lang/Throwable", "<init>", "()V"⟩ : MethodName) ∈ TT := tt_m (List.mem_of_getElem? (i := 730) (by decide +kernel)) rfl
theorem kf_Throwable_7 : Cond.fieldLink "java/lang/Throwable" 7 "java/lang/Throwable" "cause" "Ljava/lang/Throwable;" ∈ TT := tt_m (List.mem_of_getElem? (i := 732) (by decide +kernel)) rfl
theorem kf_Throwable_17 : Cond.fieldLink "java/lang/Throwable" 17 "java/lang/Throwable" "stackTrace" "[Ljava/lang/StackTraceElement;" ∈ TT := tt_m (List.mem_of_getElem? (i := 733) (by decide +kernel)) rfl
theorem kf_Throwable_24 : Cond.fieldLink "java/lang/Throwable" 24 "java/lang/Throwable" "suppressedExceptions" "Ljava/util/List;" ∈ TT := tt_m (List.mem_of_getElem? (i := 734) (by decide +kernel)) rfl
theorem km_X7_117 : Cond.methodLink RX7 117 yX6_partOf ∈ TT := tt_m (List.mem_of_getElem? (i := 743) (by decide +kernel)) rfl
theorem kI_X6_partOf : Cond.instanceMethod yX6_partOf ∈ TT := tt_m (List.mem_of_getElem? (i := 744) (by decide +kernel)) rfl
theorem ks_X6_partOf : Cond.selects RX6 yX6_partOf yX6_partOf ∈ TT := tt_m (List.mem_of_getElem? (i := 745) (by decide +kernel)) rfl
theorem kC_X6_partOf : Cond.code yX6_partOf cX6_partOf 5 (some .int) ∈ TT := tt_m (List.mem_of_getElem? (i := 746) (by decide +kernel)) rfl
theorem kc_X6_24 : Cond.constant RX6 24 (131071) ∈ TT := tt_m (List.mem_of_getElem? (i := 747) (by decide +kernel)) rfl
theorem km_L_76 : Cond.methodLink RL 76 yL_page ∈ TT := tt_m (List.mem_of_getElem? (i := 748) (by decide +kernel)) rfl
theorem kS_L_page : Cond.static yL_page ∈ TT := tt_m (List.mem_of_getElem? (i := 749) (by decide +kernel)) rfl
theorem km_L_15 : Cond.methodLink RL 15 yX7_page ∈ TT := tt_m (List.mem_of_getElem? (i := 751) (by decide +kernel)) rfl
theorem kI_X7_page : Cond.instanceMethod yX7_page ∈ TT := tt_m (List.mem_of_getElem? (i := 752) (by decide +kernel)) rfl
theorem ks_X7_page : Cond.selects RX7 yX7_page yX7_page ∈ TT := tt_m (List.mem_of_getElem? (i := 753) (by decide +kernel)) rfl
theorem kC_X7_page : Cond.code yX7_page cX7_page 3 (some .int) ∈ TT := tt_m (List.mem_of_getElem? (i := 754) (by decide +kernel)) rfl
theorem km_X7_121 : Cond.methodLink RX7 121 yX0_has ∈ TT := tt_m (List.mem_of_getElem? (i := 755) (by decide +kernel)) rfl
theorem kI_X0_has : Cond.instanceMethod yX0_has ∈ TT := tt_m (List.mem_of_getElem? (i := 756) (by decide +kernel)) rfl
theorem ks_X0_has : Cond.selects RX0 yX0_has yX0_has ∈ TT := tt_m (List.mem_of_getElem? (i := 757) (by decide +kernel)) rfl
theorem kC_X0_has : Cond.code yX0_has cX0_has 2 (some .boolean) ∈ TT := tt_m (List.mem_of_getElem? (i := 758) (by decide +kernel)) rfl
theorem km_X7_125 : Cond.methodLink RX7 125 yX0_partOf ∈ TT := tt_m (List.mem_of_getElem? (i := 759) (by decide +kernel)) rfl
theorem kI_X0_partOf : Cond.instanceMethod yX0_partOf ∈ TT := tt_m (List.mem_of_getElem? (i := 760) (by decide +kernel)) rfl
theorem ks_X0_partOf : Cond.selects RX0 yX0_partOf yX0_partOf ∈ TT := tt_m (List.mem_of_getElem? (i := 761) (by decide +kernel)) rfl
theorem kC_X0_partOf : Cond.code yX0_partOf cX0_partOf 3 (some .int) ∈ TT := tt_m (List.mem_of_getElem? (i := 762) (by decide +kernel)) rfl
theorem km_L_79 : Cond.methodLink RL 79 yL_other ∈ TT := tt_m (List.mem_of_getElem? (i := 763) (by decide +kernel)) rfl
theorem kS_L_other : Cond.static yL_other ∈ TT := tt_m (List.mem_of_getElem? (i := 764) (by decide +kernel)) rfl
theorem kk_L_22 : Cond.classLink RL 22 "java/lang/IllegalStateException" ∈ TT := tt_m (List.mem_of_getElem? (i := 766) (by decide +kernel)) rfl
theorem km_L_18 : Cond.methodLink RL 18 yX7_other ∈ TT := tt_m (List.mem_of_getElem? (i := 767) (by decide +kernel)) rfl
theorem kI_X7_other : Cond.instanceMethod yX7_other ∈ TT := tt_m (List.mem_of_getElem? (i := 768) (by decide +kernel)) rfl
theorem ks_X7_other : Cond.selects RX7 yX7_other yX7_other ∈ TT := tt_m (List.mem_of_getElem? (i := 769) (by decide +kernel)) rfl
theorem kC_X7_other : Cond.code yX7_other cX7_other 2 (some .int) ∈ TT := tt_m (List.mem_of_getElem? (i := 770) (by decide +kernel)) rfl
theorem kk_X7_127 : Cond.classLink RX7 127 "java/lang/IllegalStateException" ∈ TT := tt_m (List.mem_of_getElem? (i := 771) (by decide +kernel)) rfl
theorem kN_IllegalStateException : Cond.instantiable "java/lang/IllegalStateException" 6 ∈ TT := tt_m (List.mem_of_getElem? (i := 772) (by decide +kernel)) rfl
theorem km_X7_129 : Cond.methodLink RX7 129 (⟨"java/lang/IllegalStateException", "<init>", "()V"⟩ : MethodName) ∈ TT := tt_m (List.mem_of_getElem? (i := 780) (by decide +kernel)) rfl
theorem kI_IllegalStateException__init_ : Cond.instanceMethod (⟨"java/lang/IllegalStateException", "<init>", "()V"⟩ : MethodName) ∈ TT := tt_m (List.mem_of_getElem? (i := 781) (by decide +kernel)) rfl
theorem km_IllegalStateException_1 : Cond.methodLink "java/lang/IllegalStateException" 1 (⟨"java/lang/RuntimeException", "<init>", "()V"⟩ : MethodName) ∈ TT := tt_m (List.mem_of_getElem? (i := 783) (by decide +kernel)) rfl
theorem km_X7_130 : Cond.methodLink RX7 130 yX3_firstPart ∈ TT := tt_m (List.mem_of_getElem? (i := 786) (by decide +kernel)) rfl
theorem kI_X3_firstPart : Cond.instanceMethod yX3_firstPart ∈ TT := tt_m (List.mem_of_getElem? (i := 787) (by decide +kernel)) rfl
theorem ks_X3_firstPart : Cond.selects RX3 yX3_firstPart yX3_firstPart ∈ TT := tt_m (List.mem_of_getElem? (i := 788) (by decide +kernel)) rfl
theorem kC_X3_firstPart : Cond.code yX3_firstPart cX3_firstPart 3 (some .int) ∈ TT := tt_m (List.mem_of_getElem? (i := 789) (by decide +kernel)) rfl
theorem km_L_83 : Cond.methodLink RL 83 yL_data ∈ TT := tt_m (List.mem_of_getElem? (i := 790) (by decide +kernel)) rfl
theorem kS_L_data : Cond.static yL_data ∈ TT := tt_m (List.mem_of_getElem? (i := 791) (by decide +kernel)) rfl
theorem km_L_24 : Cond.methodLink RL 24 yX7_data ∈ TT := tt_m (List.mem_of_getElem? (i := 793) (by decide +kernel)) rfl
theorem kI_X7_data : Cond.instanceMethod yX7_data ∈ TT := tt_m (List.mem_of_getElem? (i := 794) (by decide +kernel)) rfl
theorem ks_X7_data : Cond.selects RX7 yX7_data yX7_data ∈ TT := tt_m (List.mem_of_getElem? (i := 795) (by decide +kernel)) rfl
theorem kC_X7_data : Cond.code yX7_data cX7_data 2 (some .long) ∈ TT := tt_m (List.mem_of_getElem? (i := 796) (by decide +kernel)) rfl
theorem km_X7_134 : Cond.methodLink RX7 134 yX3_firstEightBytes ∈ TT := tt_m (List.mem_of_getElem? (i := 797) (by decide +kernel)) rfl
theorem kI_X3_firstEightBytes : Cond.instanceMethod yX3_firstEightBytes ∈ TT := tt_m (List.mem_of_getElem? (i := 798) (by decide +kernel)) rfl
theorem ks_X3_firstEightBytes : Cond.selects RX3 yX3_firstEightBytes yX3_firstEightBytes ∈ TT := tt_m (List.mem_of_getElem? (i := 799) (by decide +kernel)) rfl
theorem kC_X3_firstEightBytes : Cond.code yX3_firstEightBytes cX3_firstEightBytes 6 (some .long) ∈ TT := tt_m (List.mem_of_getElem? (i := 800) (by decide +kernel)) rfl
theorem km_L_91 : Cond.methodLink RL 91 yL_place ∈ TT := tt_m (List.mem_of_getElem? (i := 801) (by decide +kernel)) rfl
theorem kS_L_place : Cond.static yL_place ∈ TT := tt_m (List.mem_of_getElem? (i := 802) (by decide +kernel)) rfl
theorem km_L_28 : Cond.methodLink RL 28 yX7_place ∈ TT := tt_m (List.mem_of_getElem? (i := 804) (by decide +kernel)) rfl
theorem kI_X7_place : Cond.instanceMethod yX7_place ∈ TT := tt_m (List.mem_of_getElem? (i := 805) (by decide +kernel)) rfl
theorem ks_X7_place : Cond.selects RX7 yX7_place yX7_place ∈ TT := tt_m (List.mem_of_getElem? (i := 806) (by decide +kernel)) rfl
theorem kC_X7_place : Cond.code yX7_place cX7_place 3 (some .int) ∈ TT := tt_m (List.mem_of_getElem? (i := 807) (by decide +kernel)) rfl
theorem kk_L_33 : Cond.classLink RL 33 RX8 ∈ TT := tt_m (List.mem_of_getElem? (i := 808) (by decide +kernel)) rfl
theorem kN_X8 : Cond.instantiable RX8 33 ∈ TT := tt_m (List.mem_of_getElem? (i := 809) (by decide +kernel)) rfl
theorem km_L_35 : Cond.methodLink RL 35 yX8_init ∈ TT := tt_m (List.mem_of_getElem? (i := 810) (by decide +kernel)) rfl
theorem kI_X8_init : Cond.instanceMethod yX8_init ∈ TT := tt_m (List.mem_of_getElem? (i := 811) (by decide +kernel)) rfl
theorem kC_X8_init : Cond.code yX8_init cX8_init 2 none ∈ TT := tt_m (List.mem_of_getElem? (i := 812) (by decide +kernel)) rfl
theorem km_X8_1 : Cond.methodLink RX8 1 (⟨"java/lang/Object", "<init>", "()V"⟩ : MethodName) ∈ TT := tt_m (List.mem_of_getElem? (i := 813) (by decide +kernel)) rfl
theorem km_X8_36 : Cond.methodLink RX8 36 yX8_reset ∈ TT := tt_m (List.mem_of_getElem? (i := 814) (by decide +kernel)) rfl
theorem kI_X8_reset : Cond.instanceMethod yX8_reset ∈ TT := tt_m (List.mem_of_getElem? (i := 816) (by decide +kernel)) rfl
theorem kC_X8_reset : Cond.code yX8_reset cX8_reset 2 none ∈ TT := tt_m (List.mem_of_getElem? (i := 817) (by decide +kernel)) rfl
theorem km_X8_91 : Cond.methodLink RX8 91 yX8_defaults ∈ TT := tt_m (List.mem_of_getElem? (i := 818) (by decide +kernel)) rfl
theorem kI_X8_defaults : Cond.instanceMethod yX8_defaults ∈ TT := tt_m (List.mem_of_getElem? (i := 820) (by decide +kernel)) rfl
theorem kC_X8_defaults : Cond.code yX8_defaults cX8_defaults 1 none ∈ TT := tt_m (List.mem_of_getElem? (i := 821) (by decide +kernel)) rfl
theorem km_X8_74 : Cond.methodLink RX8 74 yX8_measure ∈ TT := tt_m (List.mem_of_getElem? (i := 822) (by decide +kernel)) rfl
theorem kI_X8_measure : Cond.instanceMethod yX8_measure ∈ TT := tt_m (List.mem_of_getElem? (i := 824) (by decide +kernel)) rfl
theorem kC_X8_measure : Cond.code yX8_measure cX8_measure 2 none ∈ TT := tt_m (List.mem_of_getElem? (i := 825) (by decide +kernel)) rfl
theorem km_X8_57 : Cond.methodLink RX8 57 yX8_down ∈ TT := tt_m (List.mem_of_getElem? (i := 826) (by decide +kernel)) rfl
theorem kS_X8_down : Cond.static yX8_down ∈ TT := tt_m (List.mem_of_getElem? (i := 827) (by decide +kernel)) rfl
theorem kC_X8_down : Cond.code yX8_down cX8_down 1 (some .int) ∈ TT := tt_m (List.mem_of_getElem? (i := 828) (by decide +kernel)) rfl
theorem kc_X8_47 : Cond.constant RX8 47 (75600) ∈ TT := tt_m (List.mem_of_getElem? (i := 829) (by decide +kernel)) rfl
theorem kc_X8_45 : Cond.constant RX8 45 (79200) ∈ TT := tt_m (List.mem_of_getElem? (i := 830) (by decide +kernel)) rfl
theorem kc_X8_48 : Cond.constant RX8 48 (100800) ∈ TT := tt_m (List.mem_of_getElem? (i := 831) (by decide +kernel)) rfl
theorem kc_X8_49 : Cond.constant RX8 49 (122400) ∈ TT := tt_m (List.mem_of_getElem? (i := 832) (by decide +kernel)) rfl
theorem kc_X8_50 : Cond.constant RX8 50 (84189) ∈ TT := tt_m (List.mem_of_getElem? (i := 833) (by decide +kernel)) rfl
theorem km_X8_61 : Cond.methodLink RX8 61 yX8_across ∈ TT := tt_m (List.mem_of_getElem? (i := 834) (by decide +kernel)) rfl
theorem kS_X8_across : Cond.static yX8_across ∈ TT := tt_m (List.mem_of_getElem? (i := 835) (by decide +kernel)) rfl
theorem kC_X8_across : Cond.code yX8_across cX8_across 1 (some .int) ∈ TT := tt_m (List.mem_of_getElem? (i := 836) (by decide +kernel)) rfl
theorem kc_X8_43 : Cond.constant RX8 43 (52200) ∈ TT := tt_m (List.mem_of_getElem? (i := 837) (by decide +kernel)) rfl
theorem kc_X8_44 : Cond.constant RX8 44 (61200) ∈ TT := tt_m (List.mem_of_getElem? (i := 838) (by decide +kernel)) rfl
theorem kc_X8_46 : Cond.constant RX8 46 (59528) ∈ TT := tt_m (List.mem_of_getElem? (i := 839) (by decide +kernel)) rfl
theorem km_X8_77 : Cond.methodLink RX8 77 yX8_setX ∈ TT := tt_m (List.mem_of_getElem? (i := 840) (by decide +kernel)) rfl
theorem kI_X8_setX : Cond.instanceMethod yX8_setX ∈ TT := tt_m (List.mem_of_getElem? (i := 842) (by decide +kernel)) rfl
theorem kC_X8_setX : Cond.code yX8_setX cX8_setX 3 none ∈ TT := tt_m (List.mem_of_getElem? (i := 843) (by decide +kernel)) rfl
theorem km_X8_70 : Cond.methodLink RX8 70 yX8_within ∈ TT := tt_m (List.mem_of_getElem? (i := 844) (by decide +kernel)) rfl
theorem kS_X8_within : Cond.static yX8_within ∈ TT := tt_m (List.mem_of_getElem? (i := 845) (by decide +kernel)) rfl
theorem kC_X8_within : Cond.code yX8_within cX8_within 3 (some .int) ∈ TT := tt_m (List.mem_of_getElem? (i := 846) (by decide +kernel)) rfl
theorem km_X8_81 : Cond.methodLink RX8 81 yX8_home ∈ TT := tt_m (List.mem_of_getElem? (i := 847) (by decide +kernel)) rfl
theorem kI_X8_home : Cond.instanceMethod yX8_home ∈ TT := tt_m (List.mem_of_getElem? (i := 849) (by decide +kernel)) rfl
theorem kC_X8_home : Cond.code yX8_home cX8_home 1 (some .int) ∈ TT := tt_m (List.mem_of_getElem? (i := 850) (by decide +kernel)) rfl
theorem km_X8_85 : Cond.methodLink RX8 85 yX8_setY ∈ TT := tt_m (List.mem_of_getElem? (i := 851) (by decide +kernel)) rfl
theorem kI_X8_setY : Cond.instanceMethod yX8_setY ∈ TT := tt_m (List.mem_of_getElem? (i := 853) (by decide +kernel)) rfl
theorem kC_X8_setY : Cond.code yX8_setY cX8_setY 3 none ∈ TT := tt_m (List.mem_of_getElem? (i := 854) (by decide +kernel)) rfl
theorem kf_X8_39 : Cond.fieldLink RX8 39 "PageDeskModel" "thrown" "I" ∈ TT := tt_m (List.mem_of_getElem? (i := 855) (by decide +kernel)) rfl
theorem kf_X8_7 : Cond.fieldLink RX8 7 "PageDeskModel" "state" "[I" ∈ TT := tt_m (List.mem_of_getElem? (i := 856) (by decide +kernel)) rfl
theorem kf_X8_13 : Cond.fieldLink RX8 13 "PageDeskModel" "kept" "[I" ∈ TT := tt_m (List.mem_of_getElem? (i := 857) (by decide +kernel)) rfl
theorem kf_X8_16 : Cond.fieldLink RX8 16 "PageDeskModel" "isKept" "[Z" ∈ TT := tt_m (List.mem_of_getElem? (i := 858) (by decide +kernel)) rfl
theorem kf_X8_54 : Cond.fieldLink RX8 54 "PageDeskModel" "size" "I" ∈ TT := tt_m (List.mem_of_getElem? (i := 859) (by decide +kernel)) rfl
theorem kf_X8_51 : Cond.fieldLink RX8 51 "PageDeskModel" "orientation" "I" ∈ TT := tt_m (List.mem_of_getElem? (i := 860) (by decide +kernel)) rfl
theorem kf_X8_88 : Cond.fieldLink RX8 88 "PageDeskModel" "copies" "I" ∈ TT := tt_m (List.mem_of_getElem? (i := 861) (by decide +kernel)) rfl
theorem kf_X8_64 : Cond.fieldLink RX8 64 "PageDeskModel" "width" "I" ∈ TT := tt_m (List.mem_of_getElem? (i := 862) (by decide +kernel)) rfl
theorem kf_X8_67 : Cond.fieldLink RX8 67 "PageDeskModel" "height" "I" ∈ TT := tt_m (List.mem_of_getElem? (i := 863) (by decide +kernel)) rfl
theorem kf_X8_20 : Cond.fieldLink RX8 20 "PageDeskModel" "steps" "[I" ∈ TT := tt_m (List.mem_of_getElem? (i := 864) (by decide +kernel)) rfl
theorem kf_X8_143 : Cond.fieldLink RX8 143 "PageDeskModel" "phase" "I" ∈ TT := tt_m (List.mem_of_getElem? (i := 865) (by decide +kernel)) rfl
theorem kf_X8_149 : Cond.fieldLink RX8 149 "PageDeskModel" "family" "I" ∈ TT := tt_m (List.mem_of_getElem? (i := 866) (by decide +kernel)) rfl
theorem kf_X8_152 : Cond.fieldLink RX8 152 "PageDeskModel" "group" "I" ∈ TT := tt_m (List.mem_of_getElem? (i := 867) (by decide +kernel)) rfl
theorem kf_X8_125 : Cond.fieldLink RX8 125 "PageDeskModel" "part" "I" ∈ TT := tt_m (List.mem_of_getElem? (i := 868) (by decide +kernel)) rfl
theorem kf_X8_128 : Cond.fieldLink RX8 128 "PageDeskModel" "signed" "Z" ∈ TT := tt_m (List.mem_of_getElem? (i := 869) (by decide +kernel)) rfl
theorem kf_X8_131 : Cond.fieldLink RX8 131 "PageDeskModel" "negative" "Z" ∈ TT := tt_m (List.mem_of_getElem? (i := 870) (by decide +kernel)) rfl
theorem kf_X8_134 : Cond.fieldLink RX8 134 "PageDeskModel" "whole" "I" ∈ TT := tt_m (List.mem_of_getElem? (i := 871) (by decide +kernel)) rfl
theorem kf_X8_137 : Cond.fieldLink RX8 137 "PageDeskModel" "behind" "I" ∈ TT := tt_m (List.mem_of_getElem? (i := 872) (by decide +kernel)) rfl
theorem kf_X8_140 : Cond.fieldLink RX8 140 "PageDeskModel" "places" "I" ∈ TT := tt_m (List.mem_of_getElem? (i := 873) (by decide +kernel)) rfl
theorem kf_X8_165 : Cond.fieldLink RX8 165 "PageDeskModel" "dataLeft" "I" ∈ TT := tt_m (List.mem_of_getElem? (i := 874) (by decide +kernel)) rfl
theorem kf_X8_162 : Cond.fieldLink RX8 162 "PageDeskModel" "last" "Z" ∈ TT := tt_m (List.mem_of_getElem? (i := 875) (by decide +kernel)) rfl
theorem kf_X8_168 : Cond.fieldLink RX8 168 "PageDeskModel" "dataTo" "I" ∈ TT := tt_m (List.mem_of_getElem? (i := 876) (by decide +kernel)) rfl
theorem kf_X8_191 : Cond.fieldLink RX8 191 "PageDeskModel" "bytesCame" "I" ∈ TT := tt_m (List.mem_of_getElem? (i := 877) (by decide +kernel)) rfl
theorem kf_X8_100 : Cond.fieldLink RX8 100 "PageDeskModel" "glyphs" "I" ∈ TT := tt_m (List.mem_of_getElem? (i := 878) (by decide +kernel)) rfl
theorem kf_X8_97 : Cond.fieldLink RX8 97 "PageDeskModel" "allGlyphs" "I" ∈ TT := tt_m (List.mem_of_getElem? (i := 879) (by decide +kernel)) rfl
theorem kf_X8_103 : Cond.fieldLink RX8 103 "PageDeskModel" "touched" "Z" ∈ TT := tt_m (List.mem_of_getElem? (i := 880) (by decide +kernel)) rfl
theorem kf_X8_23 : Cond.fieldLink RX8 23 "PageDeskModel" "glyph" "[I" ∈ TT := tt_m (List.mem_of_getElem? (i := 881) (by decide +kernel)) rfl
theorem kf_X8_94 : Cond.fieldLink RX8 94 "PageDeskModel" "pages" "I" ∈ TT := tt_m (List.mem_of_getElem? (i := 882) (by decide +kernel)) rfl
theorem kf_X8_26 : Cond.fieldLink RX8 26 "PageDeskModel" "page" "[I" ∈ TT := tt_m (List.mem_of_getElem? (i := 883) (by decide +kernel)) rfl
theorem kf_X8_182 : Cond.fieldLink RX8 182 "PageDeskModel" "others" "I" ∈ TT := tt_m (List.mem_of_getElem? (i := 884) (by decide +kernel)) rfl
theorem kf_X8_29 : Cond.fieldLink RX8 29 "PageDeskModel" "other" "[I" ∈ TT := tt_m (List.mem_of_getElem? (i := 885) (by decide +kernel)) rfl
theorem kf_X8_188 : Cond.fieldLink RX8 188 "PageDeskModel" "stored" "I" ∈ TT := tt_m (List.mem_of_getElem? (i := 886) (by decide +kernel)) rfl
theorem kf_X8_32 : Cond.fieldLink RX8 32 "PageDeskModel" "store" "[B" ∈ TT := tt_m (List.mem_of_getElem? (i := 887) (by decide +kernel)) rfl
theorem km_L_72 : Cond.methodLink RL 72 yX8_thrown ∈ TT := tt_m (List.mem_of_getElem? (i := 955) (by decide +kernel)) rfl
theorem kI_X8_thrown : Cond.instanceMethod yX8_thrown ∈ TT := tt_m (List.mem_of_getElem? (i := 956) (by decide +kernel)) rfl
theorem ks_X8_thrown : Cond.selects RX8 yX8_thrown yX8_thrown ∈ TT := tt_m (List.mem_of_getElem? (i := 957) (by decide +kernel)) rfl
theorem kC_X8_thrown : Cond.code yX8_thrown cX8_thrown 1 (some .int) ∈ TT := tt_m (List.mem_of_getElem? (i := 958) (by decide +kernel)) rfl
theorem km_L_42 : Cond.methodLink RL 42 yX8_feed ∈ TT := tt_m (List.mem_of_getElem? (i := 959) (by decide +kernel)) rfl
theorem kI_X8_feed : Cond.instanceMethod yX8_feed ∈ TT := tt_m (List.mem_of_getElem? (i := 960) (by decide +kernel)) rfl
theorem ks_X8_feed : Cond.selects RX8 yX8_feed yX8_feed ∈ TT := tt_m (List.mem_of_getElem? (i := 961) (by decide +kernel)) rfl
theorem kC_X8_feed : Cond.code yX8_feed cX8_feed 5 (some .boolean) ∈ TT := tt_m (List.mem_of_getElem? (i := 962) (by decide +kernel)) rfl
theorem kc_X8_206 : Cond.constantLong RX8 206 (255) ∈ TT := tt_m (List.mem_of_getElem? (i := 963) (by decide +kernel)) rfl
theorem km_X8_208 : Cond.methodLink RX8 208 yX8_comes ∈ TT := tt_m (List.mem_of_getElem? (i := 964) (by decide +kernel)) rfl
theorem kI_X8_comes : Cond.instanceMethod yX8_comes ∈ TT := tt_m (List.mem_of_getElem? (i := 966) (by decide +kernel)) rfl
theorem kC_X8_comes : Cond.code yX8_comes cX8_comes 2 none ∈ TT := tt_m (List.mem_of_getElem? (i := 967) (by decide +kernel)) rfl
theorem km_X8_194 : Cond.methodLink RX8 194 yX8_datum ∈ TT := tt_m (List.mem_of_getElem? (i := 968) (by decide +kernel)) rfl
theorem kI_X8_datum : Cond.instanceMethod yX8_datum ∈ TT := tt_m (List.mem_of_getElem? (i := 970) (by decide +kernel)) rfl
theorem kC_X8_datum : Cond.code yX8_datum cX8_datum 3 none ∈ TT := tt_m (List.mem_of_getElem? (i := 971) (by decide +kernel)) rfl
theorem km_X8_185 : Cond.methodLink RX8 185 yX8_character ∈ TT := tt_m (List.mem_of_getElem? (i := 972) (by decide +kernel)) rfl
theorem kI_X8_character : Cond.instanceMethod yX8_character ∈ TT := tt_m (List.mem_of_getElem? (i := 974) (by decide +kernel)) rfl
theorem kC_X8_character : Cond.code yX8_character cX8_character 4 none ∈ TT := tt_m (List.mem_of_getElem? (i := 975) (by decide +kernel)) rfl
theorem km_X8_110 : Cond.methodLink RX8 110 yX8_carriageReturn ∈ TT := tt_m (List.mem_of_getElem? (i := 976) (by decide +kernel)) rfl
theorem kI_X8_carriageReturn : Cond.instanceMethod yX8_carriageReturn ∈ TT := tt_m (List.mem_of_getElem? (i := 978) (by decide +kernel)) rfl
theorem kC_X8_carriageReturn : Cond.code yX8_carriageReturn cX8_carriageReturn 1 none ∈ TT := tt_m (List.mem_of_getElem? (i := 979) (by decide +kernel)) rfl
theorem km_X8_113 : Cond.methodLink RX8 113 yX8_lineFeed ∈ TT := tt_m (List.mem_of_getElem? (i := 980) (by decide +kernel)) rfl
theorem kI_X8_lineFeed : Cond.instanceMethod yX8_lineFeed ∈ TT := tt_m (List.mem_of_getElem? (i := 982) (by decide +kernel)) rfl
theorem kC_X8_lineFeed : Cond.code yX8_lineFeed cX8_lineFeed 4 none ∈ TT := tt_m (List.mem_of_getElem? (i := 983) (by decide +kernel)) rfl
theorem km_X8_107 : Cond.methodLink RX8 107 yX8_eject ∈ TT := tt_m (List.mem_of_getElem? (i := 984) (by decide +kernel)) rfl
theorem kI_X8_eject : Cond.instanceMethod yX8_eject ∈ TT := tt_m (List.mem_of_getElem? (i := 986) (by decide +kernel)) rfl
theorem kC_X8_eject : Cond.code yX8_eject cX8_eject 2 none ∈ TT := tt_m (List.mem_of_getElem? (i := 987) (by decide +kernel)) rfl
theorem km_X8_197 : Cond.methodLink RX8 197 yX8_behindEsc ∈ TT := tt_m (List.mem_of_getElem? (i := 988) (by decide +kernel)) rfl
theorem kI_X8_behindEsc : Cond.instanceMethod yX8_behindEsc ∈ TT := tt_m (List.mem_of_getElem? (i := 990) (by decide +kernel)) rfl
theorem kC_X8_behindEsc : Cond.code yX8_behindEsc cX8_behindEsc 2 none ∈ TT := tt_m (List.mem_of_getElem? (i := 991) (by decide +kernel)) rfl
theorem km_X8_146 : Cond.methodLink RX8 146 yX8_shortSequence ∈ TT := tt_m (List.mem_of_getElem? (i := 992) (by decide +kernel)) rfl
theorem kI_X8_shortSequence : Cond.instanceMethod yX8_shortSequence ∈ TT := tt_m (List.mem_of_getElem? (i := 994) (by decide +kernel)) rfl
theorem kC_X8_shortSequence : Cond.code yX8_shortSequence cX8_shortSequence 2 none ∈ TT := tt_m (List.mem_of_getElem? (i := 995) (by decide +kernel)) rfl
theorem km_X8_122 : Cond.methodLink RX8 122 yX8_ejectIfDue ∈ TT := tt_m (List.mem_of_getElem? (i := 996) (by decide +kernel)) rfl
theorem kI_X8_ejectIfDue : Cond.instanceMethod yX8_ejectIfDue ∈ TT := tt_m (List.mem_of_getElem? (i := 998) (by decide +kernel)) rfl
theorem kC_X8_ejectIfDue : Cond.code yX8_ejectIfDue cX8_ejectIfDue 1 none ∈ TT := tt_m (List.mem_of_getElem? (i := 999) (by decide +kernel)) rfl
theorem km_X8_179 : Cond.methodLink RX8 179 yX8_beginField ∈ TT := tt_m (List.mem_of_getElem? (i := 1000) (by decide +kernel)) rfl
theorem kI_X8_beginField : Cond.instanceMethod yX8_beginField ∈ TT := tt_m (List.mem_of_getElem? (i := 1002) (by decide +kernel)) rfl
theorem kC_X8_beginField : Cond.code yX8_beginField cX8_beginField 1 none ∈ TT := tt_m (List.mem_of_getElem? (i := 1003) (by decide +kernel)) rfl
theorem km_X8_200 : Cond.methodLink RX8 200 yX8_field ∈ TT := tt_m (List.mem_of_getElem? (i := 1004) (by decide +kernel)) rfl
theorem kI_X8_field : Cond.instanceMethod yX8_field ∈ TT := tt_m (List.mem_of_getElem? (i := 1006) (by decide +kernel)) rfl
theorem kC_X8_field : Cond.code yX8_field cX8_field 3 none ∈ TT := tt_m (List.mem_of_getElem? (i := 1007) (by decide +kernel)) rfl
theorem km_X8_155 : Cond.methodLink RX8 155 yX8_command ∈ TT := tt_m (List.mem_of_getElem? (i := 1008) (by decide +kernel)) rfl
theorem kI_X8_command : Cond.instanceMethod yX8_command ∈ TT := tt_m (List.mem_of_getElem? (i := 1010) (by decide +kernel)) rfl
theorem kC_X8_command : Cond.code yX8_command cX8_command 6 none ∈ TT := tt_m (List.mem_of_getElem? (i := 1011) (by decide +kernel)) rfl
theorem km_X8_159 : Cond.methodLink RX8 159 yX8_value ∈ TT := tt_m (List.mem_of_getElem? (i := 1012) (by decide +kernel)) rfl
theorem kI_X8_value : Cond.instanceMethod yX8_value ∈ TT := tt_m (List.mem_of_getElem? (i := 1014) (by decide +kernel)) rfl
theorem kC_X8_value : Cond.code yX8_value cX8_value 3 (some .int) ∈ TT := tt_m (List.mem_of_getElem? (i := 1015) (by decide +kernel)) rfl
theorem km_X8_171 : Cond.methodLink RX8 171 yX8_known ∈ TT := tt_m (List.mem_of_getElem? (i := 1016) (by decide +kernel)) rfl
theorem kI_X8_known : Cond.instanceMethod yX8_known ∈ TT := tt_m (List.mem_of_getElem? (i := 1018) (by decide +kernel)) rfl
theorem kC_X8_known : Cond.code yX8_known cX8_known 8 (some .boolean) ∈ TT := tt_m (List.mem_of_getElem? (i := 1019) (by decide +kernel)) rfl
theorem km_X8_211 : Cond.methodLink RX8 211 yX8_paging ∈ TT := tt_m (List.mem_of_getElem? (i := 1020) (by decide +kernel)) rfl
theorem kI_X8_paging : Cond.instanceMethod yX8_paging ∈ TT := tt_m (List.mem_of_getElem? (i := 1022) (by decide +kernel)) rfl
theorem kC_X8_paging : Cond.code yX8_paging cX8_paging 5 (some .boolean) ∈ TT := tt_m (List.mem_of_getElem? (i := 1023) (by decide +kernel)) rfl
theorem kc_X8_234 : Cond.constantLong RX8 234 (150) ∈ TT := tt_m (List.mem_of_getElem? (i := 1024) (by decide +kernel)) rfl
theorem kc_X8_221 : Cond.constantLong RX8 221 (10000) ∈ TT := tt_m (List.mem_of_getElem? (i := 1025) (by decide +kernel)) rfl
theorem km_X8_236 : Cond.methodLink RX8 236 yX8_divides ∈ TT := tt_m (List.mem_of_getElem? (i := 1026) (by decide +kernel)) rfl
theorem kS_X8_divides : Cond.static yX8_divides ∈ TT := tt_m (List.mem_of_getElem? (i := 1027) (by decide +kernel)) rfl
theorem kC_X8_divides : Cond.code yX8_divides cX8_divides 1 (some .boolean) ∈ TT := tt_m (List.mem_of_getElem? (i := 1028) (by decide +kernel)) rfl
theorem km_X8_215 : Cond.methodLink RX8 215 yX8_is ∈ TT := tt_m (List.mem_of_getElem? (i := 1029) (by decide +kernel)) rfl
theorem kI_X8_is : Cond.instanceMethod yX8_is ∈ TT := tt_m (List.mem_of_getElem? (i := 1031) (by decide +kernel)) rfl
theorem kC_X8_is : Cond.code yX8_is cX8_is 5 (some .boolean) ∈ TT := tt_m (List.mem_of_getElem? (i := 1032) (by decide +kernel)) rfl
theorem kc_X8_219 : Cond.constantLong RX8 219 (60) ∈ TT := tt_m (List.mem_of_getElem? (i := 1033) (by decide +kernel)) rfl
theorem km_X8_223 : Cond.methodLink RX8 223 yX8_stack ∈ TT := tt_m (List.mem_of_getElem? (i := 1034) (by decide +kernel)) rfl
theorem kI_X8_stack : Cond.instanceMethod yX8_stack ∈ TT := tt_m (List.mem_of_getElem? (i := 1036) (by decide +kernel)) rfl
theorem kC_X8_stack : Cond.code yX8_stack cX8_stack 3 none ∈ TT := tt_m (List.mem_of_getElem? (i := 1037) (by decide +kernel)) rfl
theorem km_X8_226 : Cond.methodLink RX8 226 yX8_cursor ∈ TT := tt_m (List.mem_of_getElem? (i := 1038) (by decide +kernel)) rfl
theorem kI_X8_cursor : Cond.instanceMethod yX8_cursor ∈ TT := tt_m (List.mem_of_getElem? (i := 1040) (by decide +kernel)) rfl
theorem kC_X8_cursor : Cond.code yX8_cursor cX8_cursor 11 (some .boolean) ∈ TT := tt_m (List.mem_of_getElem? (i := 1041) (by decide +kernel)) rfl
theorem kc_X8_230 : Cond.constantLong RX8 230 (24) ∈ TT := tt_m (List.mem_of_getElem? (i := 1042) (by decide +kernel)) rfl
theorem kc_X8_232 : Cond.constantLong RX8 232 (10) ∈ TT := tt_m (List.mem_of_getElem? (i := 1043) (by decide +kernel)) rfl
theorem km_X8_175 : Cond.methodLink RX8 175 yX8_handOn ∈ TT := tt_m (List.mem_of_getElem? (i := 1044) (by decide +kernel)) rfl
theorem kI_X8_handOn : Cond.instanceMethod yX8_handOn ∈ TT := tt_m (List.mem_of_getElem? (i := 1046) (by decide +kernel)) rfl
theorem kC_X8_handOn : Cond.code yX8_handOn cX8_handOn 4 none ∈ TT := tt_m (List.mem_of_getElem? (i := 1047) (by decide +kernel)) rfl
theorem km_X8_203 : Cond.methodLink RX8 203 yX8_control ∈ TT := tt_m (List.mem_of_getElem? (i := 1048) (by decide +kernel)) rfl
theorem kI_X8_control : Cond.instanceMethod yX8_control ∈ TT := tt_m (List.mem_of_getElem? (i := 1050) (by decide +kernel)) rfl
theorem kC_X8_control : Cond.code yX8_control cX8_control 6 none ∈ TT := tt_m (List.mem_of_getElem? (i := 1051) (by decide +kernel)) rfl
theorem km_X8_119 : Cond.methodLink RX8 119 yX8_tab ∈ TT := tt_m (List.mem_of_getElem? (i := 1052) (by decide +kernel)) rfl
theorem kI_X8_tab : Cond.instanceMethod yX8_tab ∈ TT := tt_m (List.mem_of_getElem? (i := 1054) (by decide +kernel)) rfl
theorem kC_X8_tab : Cond.code yX8_tab cX8_tab 5 none ∈ TT := tt_m (List.mem_of_getElem? (i := 1055) (by decide +kernel)) rfl
theorem kc_X8_117 : Cond.constantLong RX8 117 (8) ∈ TT := tt_m (List.mem_of_getElem? (i := 1056) (by decide +kernel)) rfl
theorem km_L_47 : Cond.methodLink RL 47 yX8_advance ∈ TT := tt_m (List.mem_of_getElem? (i := 1057) (by decide +kernel)) rfl
theorem kI_X8_advance : Cond.instanceMethod yX8_advance ∈ TT := tt_m (List.mem_of_getElem? (i := 1058) (by decide +kernel)) rfl
theorem ks_X8_advance : Cond.selects RX8 yX8_advance yX8_advance ∈ TT := tt_m (List.mem_of_getElem? (i := 1059) (by decide +kernel)) rfl
theorem kC_X8_advance : Cond.code yX8_advance cX8_advance 4 (some .boolean) ∈ TT := tt_m (List.mem_of_getElem? (i := 1060) (by decide +kernel)) rfl
theorem km_L_56 : Cond.methodLink RL 56 yX8_move ∈ TT := tt_m (List.mem_of_getElem? (i := 1061) (by decide +kernel)) rfl
theorem kI_X8_move : Cond.instanceMethod yX8_move ∈ TT := tt_m (List.mem_of_getElem? (i := 1062) (by decide +kernel)) rfl
theorem ks_X8_move : Cond.selects RX8 yX8_move yX8_move ∈ TT := tt_m (List.mem_of_getElem? (i := 1063) (by decide +kernel)) rfl
theorem kC_X8_move : Cond.code yX8_move cX8_move 3 none ∈ TT := tt_m (List.mem_of_getElem? (i := 1064) (by decide +kernel)) rfl
theorem km_L_51 : Cond.methodLink RL 51 yX8_due ∈ TT := tt_m (List.mem_of_getElem? (i := 1065) (by decide +kernel)) rfl
theorem kI_X8_due : Cond.instanceMethod yX8_due ∈ TT := tt_m (List.mem_of_getElem? (i := 1066) (by decide +kernel)) rfl
theorem ks_X8_due : Cond.selects RX8 yX8_due yX8_due ∈ TT := tt_m (List.mem_of_getElem? (i := 1067) (by decide +kernel)) rfl
theorem kC_X8_due : Cond.code yX8_due cX8_due 1 none ∈ TT := tt_m (List.mem_of_getElem? (i := 1068) (by decide +kernel)) rfl
theorem km_L_61 : Cond.methodLink RL 61 yX8_keep ∈ TT := tt_m (List.mem_of_getElem? (i := 1069) (by decide +kernel)) rfl
theorem kI_X8_keep : Cond.instanceMethod yX8_keep ∈ TT := tt_m (List.mem_of_getElem? (i := 1070) (by decide +kernel)) rfl
theorem ks_X8_keep : Cond.selects RX8 yX8_keep yX8_keep ∈ TT := tt_m (List.mem_of_getElem? (i := 1071) (by decide +kernel)) rfl
theorem kC_X8_keep : Cond.code yX8_keep cX8_keep 3 (some .boolean) ∈ TT := tt_m (List.mem_of_getElem? (i := 1072) (by decide +kernel)) rfl
theorem km_L_65 : Cond.methodLink RL 65 yX8_bring ∈ TT := tt_m (List.mem_of_getElem? (i := 1073) (by decide +kernel)) rfl
theorem kI_X8_bring : Cond.instanceMethod yX8_bring ∈ TT := tt_m (List.mem_of_getElem? (i := 1074) (by decide +kernel)) rfl
theorem ks_X8_bring : Cond.selects RX8 yX8_bring yX8_bring ∈ TT := tt_m (List.mem_of_getElem? (i := 1075) (by decide +kernel)) rfl
theorem kC_X8_bring : Cond.code yX8_bring cX8_bring 3 (some .boolean) ∈ TT := tt_m (List.mem_of_getElem? (i := 1076) (by decide +kernel)) rfl
theorem km_L_71 : Cond.methodLink RL 71 yX8_glyph ∈ TT := tt_m (List.mem_of_getElem? (i := 1077) (by decide +kernel)) rfl
theorem kI_X8_glyph : Cond.instanceMethod yX8_glyph ∈ TT := tt_m (List.mem_of_getElem? (i := 1078) (by decide +kernel)) rfl
theorem ks_X8_glyph : Cond.selects RX8 yX8_glyph yX8_glyph ∈ TT := tt_m (List.mem_of_getElem? (i := 1079) (by decide +kernel)) rfl
theorem kC_X8_glyph : Cond.code yX8_glyph cX8_glyph 3 (some .int) ∈ TT := tt_m (List.mem_of_getElem? (i := 1080) (by decide +kernel)) rfl
theorem km_L_78 : Cond.methodLink RL 78 yX8_page ∈ TT := tt_m (List.mem_of_getElem? (i := 1081) (by decide +kernel)) rfl
theorem kI_X8_page : Cond.instanceMethod yX8_page ∈ TT := tt_m (List.mem_of_getElem? (i := 1082) (by decide +kernel)) rfl
theorem ks_X8_page : Cond.selects RX8 yX8_page yX8_page ∈ TT := tt_m (List.mem_of_getElem? (i := 1083) (by decide +kernel)) rfl
theorem kC_X8_page : Cond.code yX8_page cX8_page 3 (some .int) ∈ TT := tt_m (List.mem_of_getElem? (i := 1084) (by decide +kernel)) rfl
theorem km_L_82 : Cond.methodLink RL 82 yX8_other ∈ TT := tt_m (List.mem_of_getElem? (i := 1085) (by decide +kernel)) rfl
theorem kI_X8_other : Cond.instanceMethod yX8_other ∈ TT := tt_m (List.mem_of_getElem? (i := 1086) (by decide +kernel)) rfl
theorem ks_X8_other : Cond.selects RX8 yX8_other yX8_other ∈ TT := tt_m (List.mem_of_getElem? (i := 1087) (by decide +kernel)) rfl
theorem kC_X8_other : Cond.code yX8_other cX8_other 2 (some .int) ∈ TT := tt_m (List.mem_of_getElem? (i := 1088) (by decide +kernel)) rfl
theorem km_L_85 : Cond.methodLink RL 85 yX8_data ∈ TT := tt_m (List.mem_of_getElem? (i := 1089) (by decide +kernel)) rfl
theorem kI_X8_data : Cond.instanceMethod yX8_data ∈ TT := tt_m (List.mem_of_getElem? (i := 1090) (by decide +kernel)) rfl
theorem ks_X8_data : Cond.selects RX8 yX8_data yX8_data ∈ TT := tt_m (List.mem_of_getElem? (i := 1091) (by decide +kernel)) rfl
theorem kC_X8_data : Cond.code yX8_data cX8_data 6 (some .long) ∈ TT := tt_m (List.mem_of_getElem? (i := 1092) (by decide +kernel)) rfl
theorem km_L_90 : Cond.methodLink RL 90 yX8_take ∈ TT := tt_m (List.mem_of_getElem? (i := 1093) (by decide +kernel)) rfl
theorem kI_X8_take : Cond.instanceMethod yX8_take ∈ TT := tt_m (List.mem_of_getElem? (i := 1094) (by decide +kernel)) rfl
theorem ks_X8_take : Cond.selects RX8 yX8_take yX8_take ∈ TT := tt_m (List.mem_of_getElem? (i := 1095) (by decide +kernel)) rfl
theorem kC_X8_take : Cond.code yX8_take cX8_take 3 (some .boolean) ∈ TT := tt_m (List.mem_of_getElem? (i := 1096) (by decide +kernel)) rfl
theorem km_L_94 : Cond.methodLink RL 94 yX8_place ∈ TT := tt_m (List.mem_of_getElem? (i := 1097) (by decide +kernel)) rfl
theorem kI_X8_place : Cond.instanceMethod yX8_place ∈ TT := tt_m (List.mem_of_getElem? (i := 1098) (by decide +kernel)) rfl
theorem ks_X8_place : Cond.selects RX8 yX8_place yX8_place ∈ TT := tt_m (List.mem_of_getElem? (i := 1099) (by decide +kernel)) rfl
theorem kC_X8_place : Cond.code yX8_place cX8_place 3 (some .int) ∈ TT := tt_m (List.mem_of_getElem? (i := 1100) (by decide +kernel)) rfl
theorem km_L_98 : Cond.methodLink RL 98 yX8_look ∈ TT := tt_m (List.mem_of_getElem? (i := 1101) (by decide +kernel)) rfl
theorem kI_X8_look : Cond.instanceMethod yX8_look ∈ TT := tt_m (List.mem_of_getElem? (i := 1102) (by decide +kernel)) rfl
theorem ks_X8_look : Cond.selects RX8 yX8_look yX8_look ∈ TT := tt_m (List.mem_of_getElem? (i := 1103) (by decide +kernel)) rfl
theorem kC_X8_look : Cond.code yX8_look cX8_look 2 (some .int) ∈ TT := tt_m (List.mem_of_getElem? (i := 1104) (by decide +kernel)) rfl
theorem kc_L_36 : Cond.constantLong RL 36 (4294967295) ∈ TT := tt_m (List.mem_of_getElem? (i := 1105) (by decide +kernel)) rfl
theorem iX0 : ∀ w ∈ u_ws RX0 TX0 2, w ∈ TT := by decide +kernel
theorem iX1 : ∀ w ∈ u_ws RX1 TX1 15, w ∈ TT := by decide +kernel
theorem iX2 : ∀ w ∈ u_ws RX2 TX2 7, w ∈ TT := by decide +kernel
theorem iX3 : ∀ w ∈ u_ws RX3 TX3 7, w ∈ TT := by decide +kernel
theorem iX4 : ∀ w ∈ u_ws RX4 TX4 5, w ∈ TT := by decide +kernel
theorem iX5 : ∀ w ∈ u_ws RX5 TX5 13, w ∈ TT := by decide +kernel
theorem iX6 : ∀ w ∈ u_ws RX6 TX6 4, w ∈ TT := by decide +kernel
theorem iX7 : ∀ w ∈ u_ws RX7 TX7 10, w ∈ TT := by decide +kernel
theorem iX8 : ∀ w ∈ u_ws RX8 TX8 33, w ∈ TT := by decide +kernel
end
section
/-! the machine's context of a method; a world in a heap; contracts over whole worlds -/
abbrev PS : Type := (Nat → Int32) × (Nat → Nat → Int32) × (Nat → Int64)
def upS (σ : PS) (k : Nat) (v : Int32) : PS := (va_up σ.1 k v, σ.2)
def upA (σ : PS) (j i : Nat) (v : Int32) : PS := (σ.1, va_up σ.2.1 j (upd (σ.2.1 j) i v), σ.2.2)
def upG (σ : PS) (i : Nat) (v : Int64) : PS := (σ.1, σ.2.1, vp_updL σ.2.2 i v)
def MC (p : Program) (s : State) (m : MethodId) (args : Array Value) (meth : Method) (c : Code) (cc : ByteArray) (own : String) (nL : Nat) (D : va_G) (tys : List (ClassId × FieldType)) : Prop :=
  p.tables.exec = Jvm.exec ∧ c.code = cc ∧ (∀ w ∈ TT, w.before args s = true) ∧ s.vm.findClass own = some m.cls ∧ va_K D vwCl tys s ∧ c.maxLocals = nL ∧ meth.locks = false
def WD (D : va_G) (A : Nat → Prop) (H0 : Heap) (w : va_W) (H : Heap) (locs : List Loc) : Prop := va_P D vwCl w H ∧ va_D A w ∧ va_S A H0 H locs ∧ ∀ q, H0.size ≤ q → A q
def PrW (D : va_G) (tys : List (ClassId × FieldType)) (av : List Value) (w : va_W) (sz : Nat) : Array Value → State → Prop := va_Pc av (fun U => U.heap.size = sz ∧ va_P D vwCl w U.heap ∧ va_K D vwCl tys U ∧ va_D (fun _ => True) w)
def BoW (D : va_G) (tys : List (ClassId × FieldType)) (F : Nat → Prop) (w' : va_W) (_ : Unit) (t : State) : Prop := va_P D vwCl w' t.heap ∧ va_K D vwCl tys t ∧ va_D F w'
def CV (l : Launch) (y : MethodName) (b : ByteArray) (nL : Nat) (rm : Room) (D : va_G) (tys : List (ClassId × FieldType)) (av : List Value) (w w' : va_W) : Prop := ∀ sz : Nat, Met l y (Cond.code y b nL none :: TT) rm (PrW D tys av w sz) (va_Qv (fun _ : Unit => True) (BoW D tys (va_A w sz) w') (va_A w sz)) 0 0 (va_A w sz)
def CI (l : Launch) (y : MethodName) (b : ByteArray) (nL : Nat) (ty : FieldType) (rm : Room) (D : va_G) (tys : List (ClassId × FieldType)) (av : List Value) (w w' : va_W) (r' : Int32) : Prop := ∀ sz : Nat, Met l y (Cond.code y b nL (some ty) :: TT) rm (PrW D tys av w sz) (va_Qi (fun (r : Int32) (_ : Unit) => r = r') (BoW D tys (va_A w sz) w') (va_A w sz)) 0 0 (va_A w sz)
def CL (l : Launch) (y : MethodName) (b : ByteArray) (nL : Nat) (rm : Room) (D : va_G) (tys : List (ClassId × FieldType)) (av : List Value) (w w' : va_W) (r' : Int64) : Prop := ∀ sz : Nat, Met l y (Cond.code y b nL (some .long) :: TT) rm (PrW D tys av w sz) (va_Ql (fun (r : Int64) (_ : Unit) => r = r') (BoW D tys (va_A w sz) w') (va_A w sz)) 0 0 (va_A w sz)
section KitB
variable {p : Program} {l : Launch} {e : Env} {R : Room} {s : State} {m : MethodId} {args : Array Value} {below : List Frame} {meth : Method} {c : Code} {H : Heap} {locs : List Loc} {cells slots : Nat} {Q : State → Prop} {cc : ByteArray} {pc : Nat} {ls : Array Slot} {rest : List Value} {own : String} {nL : Nat} {D : va_G} {tys : List (ClassId × FieldType)} {A : Nat → Prop} {H0 : Heap} {w : va_W}
theorem wd_free (hw : WD D A H0 w H locs) : ∀ q, va_A w H.size q → A q := by
  intro q h
  rcases h with ⟨k, e, h⟩ | h
  · exact hw.2.1.2 k (q, e) h
  · exact hw.2.2.2 q (Nat.le_trans hw.2.2.1.1 h)
theorem gG (K : MC p s m args meth c cc own nL D tys) (hw : WD D A H0 w H locs) {C : String} {T : u_T} {N ci index ad : Nat} (q i : Nat) {fs : List Value} {v : Value} (he : w[q]? = some (ad, .inr (ci, fs))) (hc : vwCl[ci]? = some (C, T, N)) (hi : i < N) (hin : ∀ w ∈ u_ws C T N, w ∈ TT) (hl : Cond.fieldLink own index (T i).1 (T i).2.1 (T i).2.2.1 ∈ TT) (hv : fs[i]? = some v) (hd : decode cc pc = .ok (.getfield index, 3))
    (kk : W p l e R s m args below meth c H locs cells slots Q (F0 m (pc + 3) ls (v :: rest))) : W p l e R s m args below meth c H locs cells slots Q (F0 m pc ls (.ref ad :: rest)) :=
  va_get (D := D) K.1 K.2.1 K.2.2.1 hin K.2.2.2.1 K.2.2.2.2.1 hw.1 q he hc i hi (K.2.2.1 _ hl) (fun _ h => h) hv hd kk
theorem gP (K : MC p s m args meth c cc own nL D tys) (hw : WD D A H0 w H locs) {C : String} {T : u_T} {N ci index ad : Nat} (q i : Nat) {fs : List Value} {v : Value} {ty : FieldType} {ty0 : Nat → FieldType} (he : w[q]? = some (ad, .inr (ci, fs))) (hc : vwCl[ci]? = some (C, T, N)) (hi : i < N) (hin : ∀ w ∈ u_ws C T N, w ∈ TT) (hty : ∀ k, k < N → parseFieldDescriptor (T k).2.2.1 = some (ty0 k)) (hnm : ∀ a, a < N → ∀ b, b < N → a ≠ b → (T a).2.1 ≠ (T b).2.1) (hl : Cond.fieldLink own index (T i).1 (T i).2.1 (T i).2.2.1 ∈ TT) (hfin : (T i).2.2.2 = false) (hty1 : ty0 i = ty) (hn : narrow ty v = v) (hf : fits ty v = true) (hlen : i < fs.length) (hd : decode cc pc = .ok (.putfield index, 3))
    (kk : ∀ (H1 : Heap) (locs1 : List Loc), WD D A H0 (w.set q (ad, .inr (ci, fs.set i v))) H1 locs1 → W p l e R s m args below meth c H1 locs1 cells slots Q (F0 m (pc + 3) ls rest)) : W p l e R s m args below meth c H locs cells slots Q (F0 m pc ls (v :: .ref ad :: rest)) :=
  va_put (D := D) K.1 K.2.1 K.2.2.1 hin ty0 hty hnm K.2.2.2.1 K.2.2.2.2.1 hw.1 hw.2.1 hw.2.2.1 q he hc i hi (K.2.2.1 _ hl) (fun _ h => h) hfin ((hty i hi).trans (by rw [hty1])) hn hf hlen hd (fun H1 locs1 hP hD hS => kk H1 locs1 ⟨hP, hD, hS, hw.2.2.2⟩)
theorem gIl (K : MC p s m args meth c cc own nL D tys) (hw : WD D A H0 w H locs) (q t0 : Nat) {ad n : Nat} {cA : ClassId} {f : Nat → Int32} {i : Int32} (ha : w[q]? = some (ad, .inl (cA, n, .inl f))) (ht : tys[t0]? = some (cA, .int)) (hin : vp_in i n) (hd : decode cc pc = .ok (.iaload, 1)) (kk : W p l e R s m args below meth c H locs cells slots Q (F0 m (pc + 1) ls (.int (f i.toNatClampNeg) :: rest))) : W p l e R s m args below meth c H locs cells slots Q (F0 m pc ls (.int i :: .ref ad :: rest)) :=
  va_iald K.1 K.2.1 K.2.2.2.2.1 hw.1 q t0 ha ht hin hd kk
theorem gBl (K : MC p s m args meth c cc own nL D tys) (hw : WD D A H0 w H locs) (q t0 : Nat) {ad n : Nat} {cA : ClassId} {f : Nat → Int32} {i : Int32} (ha : w[q]? = some (ad, .inl (cA, n, .inl f))) (ht : tys[t0]? = some (cA, .byte)) (hin : vp_in i n) (hd : decode cc pc = .ok (.baload, 1)) (kk : W p l e R s m args below meth c H locs cells slots Q (F0 m (pc + 1) ls (.int (f i.toNatClampNeg) :: rest))) : W p l e R s m args below meth c H locs cells slots Q (F0 m pc ls (.int i :: .ref ad :: rest)) :=
  va_bald K.1 K.2.1 K.2.2.2.2.1 hw.1 q t0 ha ht hin hd kk
theorem gZl (K : MC p s m args meth c cc own nL D tys) (hw : WD D A H0 w H locs) (q t0 : Nat) {ad n : Nat} {cA : ClassId} {f : Nat → Int32} {i : Int32} (ha : w[q]? = some (ad, .inl (cA, n, .inl f))) (ht : tys[t0]? = some (cA, .boolean)) (hin : vp_in i n) (hd : decode cc pc = .ok (.baload, 1)) (kk : W p l e R s m args below meth c H locs cells slots Q (F0 m (pc + 1) ls (.int (f i.toNatClampNeg) :: rest))) : W p l e R s m args below meth c H locs cells slots Q (F0 m pc ls (.int i :: .ref ad :: rest)) :=
  va_zald K.1 K.2.1 K.2.2.2.2.1 hw.1 q t0 ha ht hin hd kk
theorem gJl (K : MC p s m args meth c cc own nL D tys) (hw : WD D A H0 w H locs) (q t0 : Nat) {ad n : Nat} {cA : ClassId} {f : Nat → Int64} {i : Int32} (ha : w[q]? = some (ad, .inl (cA, n, .inr (.inl f)))) (ht : tys[t0]? = some (cA, .long)) (hin : vp_in i n) (hd : decode cc pc = .ok (.laload, 1)) (kk : W p l e R s m args below meth c H locs cells slots Q (F0 m (pc + 1) ls (.long (f i.toNatClampNeg) :: rest))) : W p l e R s m args below meth c H locs cells slots Q (F0 m pc ls (.int i :: .ref ad :: rest)) :=
  va_lald K.1 K.2.1 K.2.2.2.2.1 hw.1 q t0 ha ht hin hd kk
theorem gIs (K : MC p s m args meth c cc own nL D tys) (hw : WD D A H0 w H locs) (q t0 : Nat) {ad n : Nat} {cA : ClassId} {f : Nat → Int32} {i x : Int32} (ha : w[q]? = some (ad, .inl (cA, n, .inl f))) (ht : tys[t0]? = some (cA, .int)) (hin : vp_in i n) (hd : decode cc pc = .ok (.iastore, 1)) (kk : ∀ (H1 : Heap) (locs1 : List Loc), WD D A H0 (w.set q (ad, .inl (cA, n, .inl (upd f i.toNatClampNeg x)))) H1 locs1 → W p l e R s m args below meth c H1 locs1 cells slots Q (F0 m (pc + 1) ls rest)) : W p l e R s m args below meth c H locs cells slots Q (F0 m pc ls (.int x :: .int i :: .ref ad :: rest)) :=
  va_iast K.1 K.2.1 K.2.2.2.2.1 hw.1 hw.2.1 hw.2.2.1 q t0 ha ht hin hd (fun H1 locs1 hP hD hS => kk H1 locs1 ⟨hP, hD, hS, hw.2.2.2⟩)
theorem gBs (K : MC p s m args meth c cc own nL D tys) (hw : WD D A H0 w H locs) (q t0 : Nat) {ad n : Nat} {cA : ClassId} {f : Nat → Int32} {i x : Int32} (ha : w[q]? = some (ad, .inl (cA, n, .inl f))) (ht : tys[t0]? = some (cA, .byte)) (hin : vp_in i n) (hd : decode cc pc = .ok (.bastore, 1)) (kk : ∀ (H1 : Heap) (locs1 : List Loc), WD D A H0 (w.set q (ad, .inl (cA, n, .inl (upd f i.toNatClampNeg (vp_nar .byte x))))) H1 locs1 → W p l e R s m args below meth c H1 locs1 cells slots Q (F0 m (pc + 1) ls rest)) : W p l e R s m args below meth c H locs cells slots Q (F0 m pc ls (.int x :: .int i :: .ref ad :: rest)) :=
  va_bast K.1 K.2.1 K.2.2.2.2.1 hw.1 hw.2.1 hw.2.2.1 q t0 ha ht hin hd (fun H1 locs1 hP hD hS => kk H1 locs1 ⟨hP, hD, hS, hw.2.2.2⟩)
theorem gZs (K : MC p s m args meth c cc own nL D tys) (hw : WD D A H0 w H locs) (q t0 : Nat) {ad n : Nat} {cA : ClassId} {f : Nat → Int32} {i x : Int32} (ha : w[q]? = some (ad, .inl (cA, n, .inl f))) (ht : tys[t0]? = some (cA, .boolean)) (hin : vp_in i n) (hd : decode cc pc = .ok (.bastore, 1)) (kk : ∀ (H1 : Heap) (locs1 : List Loc), WD D A H0 (w.set q (ad, .inl (cA, n, .inl (upd f i.toNatClampNeg (vp_nar .boolean x))))) H1 locs1 → W p l e R s m args below meth c H1 locs1 cells slots Q (F0 m (pc + 1) ls rest)) : W p l e R s m args below meth c H locs cells slots Q (F0 m pc ls (.int x :: .int i :: .ref ad :: rest)) :=
  va_zast K.1 K.2.1 K.2.2.2.2.1 hw.1 hw.2.1 hw.2.2.1 q t0 ha ht hin hd (fun H1 locs1 hP hD hS => kk H1 locs1 ⟨hP, hD, hS, hw.2.2.2⟩)
theorem gJs (K : MC p s m args meth c cc own nL D tys) (hw : WD D A H0 w H locs) (q t0 : Nat) {ad n : Nat} {cA : ClassId} {f : Nat → Int64} {i : Int32} {x : Int64} (ha : w[q]? = some (ad, .inl (cA, n, .inr (.inl f)))) (ht : tys[t0]? = some (cA, .long)) (hin : vp_in i n) (hd : decode cc pc = .ok (.lastore, 1)) (kk : ∀ (H1 : Heap) (locs1 : List Loc), WD D A H0 (w.set q (ad, .inl (cA, n, .inr (.inl (vp_updL f i.toNatClampNeg x))))) H1 locs1 → W p l e R s m args below meth c H1 locs1 cells slots Q (F0 m (pc + 1) ls rest)) : W p l e R s m args below meth c H locs cells slots Q (F0 m pc ls (.long x :: .int i :: .ref ad :: rest)) :=
  va_last K.1 K.2.1 K.2.2.2.2.1 hw.1 hw.2.1 hw.2.2.1 q t0 ha ht hin hd (fun H1 locs1 hP hD hS => kk H1 locs1 ⟨hP, hD, hS, hw.2.2.2⟩)
theorem gAl (K : MC p s m args meth c cc own nL D tys) (hw : WD D A H0 w H locs) (q t0 : Nat) {ad n : Nat} {C : String} {cA : ClassId} {f : Nat → Option Nat} {i : Int32} {v : Value} (ha : w[q]? = some (ad, .inl (cA, n, .inr (.inr (.inr (.inr f)))))) (ht : tys[t0]? = some (cA, .object C)) (hin : vp_in i n) (hv : va_rf (f i.toNatClampNeg) = v) (hd : decode cc pc = .ok (.aaload, 1)) (kk : W p l e R s m args below meth c H locs cells slots Q (F0 m (pc + 1) ls (v :: rest))) : W p l e R s m args below meth c H locs cells slots Q (F0 m pc ls (.int i :: .ref ad :: rest)) :=
  va_aldq K.1 K.2.1 K.2.2.2.2.1 hw.1 q t0 ha ht hin hd (by rw [hv]; exact kk)
/-- two longs compared, then branched on -/
theorem lc_lt (K : MC p s m args meth c cc own nL D tys) {x y : Int64} {off : Int} {tgt : Nat} (d1 : decode cc pc = .ok (.lcmp, 1)) (d2 : decode cc (pc + 1) = .ok (.ifCond .lt off, 3)) (ht : ((pc + 1 : Nat) : Int) + off = (tgt : Int)) (kt : x < y → W p l e R s m args below meth c H locs cells slots Q (F0 m tgt ls rest)) (kf : ¬ x < y → W p l e R s m args below meth c H locs cells slots Q (F0 m (pc + 1 + 3) ls rest)) : W p l e R s m args below meth c H locs cells slots Q (F0 m pc ls (.long y :: .long x :: rest)) :=
  W.lcmp K.1 K.2.1 d1 (lv_if_lt K.1 K.2.1 d2 ht (fun h => kt ((lg_cmp_lt x y).mp h)) (fun h => kf (fun h2 => h ((lg_cmp_lt x y).mpr h2))))
theorem lc_ge (K : MC p s m args meth c cc own nL D tys) {x y : Int64} {off : Int} {tgt : Nat} (d1 : decode cc pc = .ok (.lcmp, 1)) (d2 : decode cc (pc + 1) = .ok (.ifCond .ge off, 3)) (ht : ((pc + 1 : Nat) : Int) + off = (tgt : Int)) (kt : y ≤ x → W p l e R s m args below meth c H locs cells slots Q (F0 m tgt ls rest)) (kf : ¬ y ≤ x → W p l e R s m args below meth c H locs cells slots Q (F0 m (pc + 1 + 3) ls rest)) : W p l e R s m args below meth c H locs cells slots Q (F0 m pc ls (.long y :: .long x :: rest)) :=
  W.lcmp K.1 K.2.1 d1 (lv_if_ge K.1 K.2.1 d2 ht (fun h => kt ((lg_cmp_ge x y).mp h)) (fun h => kf (fun h2 => h ((lg_cmp_ge x y).mpr h2))))
theorem lc_gt (K : MC p s m args meth c cc own nL D tys) {x y : Int64} {off : Int} {tgt : Nat} (d1 : decode cc pc = .ok (.lcmp, 1)) (d2 : decode cc (pc + 1) = .ok (.ifCond .gt off, 3)) (ht : ((pc + 1 : Nat) : Int) + off = (tgt : Int)) (kt : y < x → W p l e R s m args below meth c H locs cells slots Q (F0 m tgt ls rest)) (kf : ¬ y < x → W p l e R s m args below meth c H locs cells slots Q (F0 m (pc + 1 + 3) ls rest)) : W p l e R s m args below meth c H locs cells slots Q (F0 m pc ls (.long y :: .long x :: rest)) :=
  W.lcmp K.1 K.2.1 d1 (lv_if_gt K.1 K.2.1 d2 ht (fun h => kt ((lg_cmp_gt x y).mp h)) (fun h => kf (fun h2 => h ((lg_cmp_gt x y).mpr h2))))
theorem lc_le (K : MC p s m args meth c cc own nL D tys) {x y : Int64} {off : Int} {tgt : Nat} (d1 : decode cc pc = .ok (.lcmp, 1)) (d2 : decode cc (pc + 1) = .ok (.ifCond .le off, 3)) (ht : ((pc + 1 : Nat) : Int) + off = (tgt : Int)) (kt : x ≤ y → W p l e R s m args below meth c H locs cells slots Q (F0 m tgt ls rest)) (kf : ¬ x ≤ y → W p l e R s m args below meth c H locs cells slots Q (F0 m (pc + 1 + 3) ls rest)) : W p l e R s m args below meth c H locs cells slots Q (F0 m pc ls (.long y :: .long x :: rest)) :=
  W.lcmp K.1 K.2.1 d1 (lv_if_le K.1 K.2.1 d2 ht (fun h => kt ((lg_cmp_le x y).mp h)) (fun h => kf (fun h2 => h ((lg_cmp_le x y).mpr h2))))
theorem lc_eq (K : MC p s m args meth c cc own nL D tys) {x y : Int64} {off : Int} {tgt : Nat} (d1 : decode cc pc = .ok (.lcmp, 1)) (d2 : decode cc (pc + 1) = .ok (.ifCond .eq off, 3)) (ht : ((pc + 1 : Nat) : Int) + off = (tgt : Int)) (kt : x = y → W p l e R s m args below meth c H locs cells slots Q (F0 m tgt ls rest)) (kf : ¬ x = y → W p l e R s m args below meth c H locs cells slots Q (F0 m (pc + 1 + 3) ls rest)) : W p l e R s m args below meth c H locs cells slots Q (F0 m pc ls (.long y :: .long x :: rest)) :=
  W.lcmp K.1 K.2.1 d1 (lv_if_eq K.1 K.2.1 d2 ht (fun h => kt ((lg_cmp_eq x y).mp h)) (fun h => kf (fun h2 => h ((lg_cmp_eq x y).mpr h2))))
theorem lc_ne (K : MC p s m args meth c cc own nL D tys) {x y : Int64} {off : Int} {tgt : Nat} (d1 : decode cc pc = .ok (.lcmp, 1)) (d2 : decode cc (pc + 1) = .ok (.ifCond .ne off, 3)) (ht : ((pc + 1 : Nat) : Int) + off = (tgt : Int)) (kt : ¬ x = y → W p l e R s m args below meth c H locs cells slots Q (F0 m tgt ls rest)) (kf : x = y → W p l e R s m args below meth c H locs cells slots Q (F0 m (pc + 1 + 3) ls rest)) : W p l e R s m args below meth c H locs cells slots Q (F0 m pc ls (.long y :: .long x :: rest)) :=
  W.lcmp K.1 K.2.1 d1 (lv_if_ne K.1 K.2.1 d2 ht (fun h => kt (fun h2 => h ((lg_cmp_eq x y).mpr h2))) (fun h => kf ((lg_cmp_eq x y).mp h)))
/-- calls: a virtual one, a static one -/
theorem caV (K : MC p s m args meth c cc own nL D tys) (hw : WD D A H0 w H locs) {y : MethodName} {b : ByteArray} {mL idx : Nat} {rm : Room} {bb : Nat} {As : List Value} {w' : va_W} (hC : CV l y b mL rm D tys (.ref bb :: As) w w') (hl : ls.size = nL) (hG : GoodIn TT (wsV own idx y.cls y (Cond.code y b mL none :: TT))) (q0 : Nat) {ci : Nat} {r : vw_C} {fs : List Value} (he : w[q0]? = some (bb, .inr (ci, fs))) (hc : vwCl[ci]? = some r) (hcy : r.1 = y.cls) {na : Nat} (hna : As.length = na) (hd9 : y.cls ≠ "java/lang/invoke/MethodHandle" ∧ y.cls ≠ "java/lang/invoke/VarHandle" ∧ (parseMethodDescriptor y.desc).map (fun d => d.parameters.length) = some na) (hrm : rm.cells = 0 ∧ rm.slots = 0) (hR : rm.frames + 1 ≤ R.frames ∧ 8 + (mL + 11) + rm.locals ≤ R.locals) (hcs : cells ≤ R.cells ∧ slots ≤ R.slots) {st : List Value} (hst : st = As.reverse ++ .ref bb :: rest) (hre : (rest.map fun v => v.category).sum ≤ 8) (hd : decode cc pc = .ok (.invokevirtual idx, 3)) (kk : ∀ (H1 : Heap) (locs1 : List Loc), WD D A H0 w' H1 locs1 → W p l e R s m args below meth c H1 locs1 cells slots Q (F0 m (pc + 3) ls rest)) : W p l e R s m args below meth c H locs cells slots Q (F0 m pc ls st) := by
  have hF := wd_free hw
  refine va_callv (va_runV (As := As) (rest := rest) ⟨K.1, K.2.1, K.2.2.2.2.2.1, K.2.2.2.1, K.2.2.1⟩ (hC H.size) (cwV na K.2.2.1 hG rfl hrm.1 hrm.2 ⟨rfl, hd9⟩ hR) ⟨fun a U g mk q => by obtain ⟨q0, q1, qP, qK, qD⟩ := q; exact ⟨q0, q1, qP, va_K.moved (u := U) (U := U.calling g mk a) (Vm.Alike.refl U.vm) qK, qD⟩, hcy ▸ va_recv K.2.2.2.2.1 hw.1 hc he, fun U hU hW => ⟨rfl, by rw [hU], by rw [hU]; exact hw.1, va_K.moved hW.alike K.2.2.2.2.1, hw.2.1.weaken (fun _ _ _ _ => trivial)⟩⟩ rfl hna hl hst (lv_room hre) hd hcs) hw.2.2.1 (fun q _ h => hF q h) hF (fun u t H1 locs1 ht hvm _ hB hz1 hk1 hS => ?_)
  obtain ⟨hP1, hK1, hD1⟩ := hB
  rw [ht] at hP1
  exact kk H1 locs1 ⟨hP1, hD1.weaken (fun k q _ h => hF q.1 h), hS, hw.2.2.2⟩
theorem caI (K : MC p s m args meth c cc own nL D tys) (hw : WD D A H0 w H locs) {y : MethodName} {b : ByteArray} {mL idx : Nat} {ty : FieldType} {rm : Room} {bb : Nat} {As : List Value} {w' : va_W} {r' : Int32} (hC : CI l y b mL ty rm D tys (.ref bb :: As) w w' r') (hl : ls.size = nL) (hG : GoodIn TT (wsV own idx y.cls y (Cond.code y b mL (some ty) :: TT))) (q0 : Nat) {ci : Nat} {r : vw_C} {fs : List Value} (he : w[q0]? = some (bb, .inr (ci, fs))) (hc : vwCl[ci]? = some r) (hcy : r.1 = y.cls) {na : Nat} (hna : As.length = na) (hd9 : y.cls ≠ "java/lang/invoke/MethodHandle" ∧ y.cls ≠ "java/lang/invoke/VarHandle" ∧ (parseMethodDescriptor y.desc).map (fun d => d.parameters.length) = some na) (hrm : rm.cells = 0 ∧ rm.slots = 0) (hR : rm.frames + 1 ≤ R.frames ∧ 8 + (mL + 11) + rm.locals ≤ R.locals) (hcs : cells ≤ R.cells ∧ slots ≤ R.slots) {st : List Value} (hst : st = As.reverse ++ .ref bb :: rest) (hre : (rest.map fun v => v.category).sum ≤ 8) (hd : decode cc pc = .ok (.invokevirtual idx, 3)) (kk : ∀ (H1 : Heap) (locs1 : List Loc), WD D A H0 w' H1 locs1 → W p l e R s m args below meth c H1 locs1 cells slots Q (F0 m (pc + 3) ls (.int r' :: rest))) : W p l e R s m args below meth c H locs cells slots Q (F0 m pc ls st) := by
  have hF := wd_free hw
  refine va_calli (va_runV (As := As) (rest := rest) ⟨K.1, K.2.1, K.2.2.2.2.2.1, K.2.2.2.1, K.2.2.1⟩ (hC H.size) (cwV na K.2.2.1 hG rfl hrm.1 hrm.2 ⟨rfl, hd9⟩ hR) ⟨fun a U g mk q => by obtain ⟨q0, q1, qP, qK, qD⟩ := q; exact ⟨q0, q1, qP, va_K.moved (u := U) (U := U.calling g mk a) (Vm.Alike.refl U.vm) qK, qD⟩, hcy ▸ va_recv K.2.2.2.2.1 hw.1 hc he, fun U hU hW => ⟨rfl, by rw [hU], by rw [hU]; exact hw.1, va_K.moved hW.alike K.2.2.2.2.1, hw.2.1.weaken (fun _ _ _ _ => trivial)⟩⟩ rfl hna hl hst (lv_room hre) hd hcs) hw.2.2.1 (fun q _ h => hF q h) hF (fun r9 u t H1 locs1 ht hvm hr9 hB hz1 hk1 hS => ?_)
  obtain ⟨hP1, hK1, hD1⟩ := hB
  rw [ht] at hP1
  rw [hr9]
  exact kk H1 locs1 ⟨hP1, hD1.weaken (fun k q _ h => hF q.1 h), hS, hw.2.2.2⟩
theorem caL (K : MC p s m args meth c cc own nL D tys) (hw : WD D A H0 w H locs) {y : MethodName} {b : ByteArray} {mL idx : Nat} {rm : Room} {bb : Nat} {As : List Value} {w' : va_W} {r' : Int64} (hC : CL l y b mL rm D tys (.ref bb :: As) w w' r') (hl : ls.size = nL) (hG : GoodIn TT (wsV own idx y.cls y (Cond.code y b mL (some .long) :: TT))) (q0 : Nat) {ci : Nat} {r : vw_C} {fs : List Value} (he : w[q0]? = some (bb, .inr (ci, fs))) (hc : vwCl[ci]? = some r) (hcy : r.1 = y.cls) {na : Nat} (hna : As.length = na) (hd9 : y.cls ≠ "java/lang/invoke/MethodHandle" ∧ y.cls ≠ "java/lang/invoke/VarHandle" ∧ (parseMethodDescriptor y.desc).map (fun d => d.parameters.length) = some na) (hrm : rm.cells = 0 ∧ rm.slots = 0) (hR : rm.frames + 1 ≤ R.frames ∧ 8 + (mL + 11) + rm.locals ≤ R.locals) (hcs : cells ≤ R.cells ∧ slots ≤ R.slots) {st : List Value} (hst : st = As.reverse ++ .ref bb :: rest) (hre : (rest.map fun v => v.category).sum ≤ 8) (hd : decode cc pc = .ok (.invokevirtual idx, 3)) (kk : ∀ (H1 : Heap) (locs1 : List Loc), WD D A H0 w' H1 locs1 → W p l e R s m args below meth c H1 locs1 cells slots Q (F0 m (pc + 3) ls (.long r' :: rest))) : W p l e R s m args below meth c H locs cells slots Q (F0 m pc ls st) := by
  have hF := wd_free hw
  refine va_calll (va_runV (As := As) (rest := rest) ⟨K.1, K.2.1, K.2.2.2.2.2.1, K.2.2.2.1, K.2.2.1⟩ (hC H.size) (cwV na K.2.2.1 hG rfl hrm.1 hrm.2 ⟨rfl, hd9⟩ hR) ⟨fun a U g mk q => by obtain ⟨q0, q1, qP, qK, qD⟩ := q; exact ⟨q0, q1, qP, va_K.moved (u := U) (U := U.calling g mk a) (Vm.Alike.refl U.vm) qK, qD⟩, hcy ▸ va_recv K.2.2.2.2.1 hw.1 hc he, fun U hU hW => ⟨rfl, by rw [hU], by rw [hU]; exact hw.1, va_K.moved hW.alike K.2.2.2.2.1, hw.2.1.weaken (fun _ _ _ _ => trivial)⟩⟩ rfl hna hl hst (lv_room hre) hd hcs) hw.2.2.1 (fun q _ h => hF q h) hF (fun r9 u t H1 locs1 ht hvm hr9 hB hz1 hk1 hS => ?_)
  obtain ⟨hP1, hK1, hD1⟩ := hB
  rw [ht] at hP1
  rw [hr9]
  exact kk H1 locs1 ⟨hP1, hD1.weaken (fun k q _ h => hF q.1 h), hS, hw.2.2.2⟩
theorem caS (K : MC p s m args meth c cc own nL D tys) (hw : WD D A H0 w H locs) {y : MethodName} {b : ByteArray} {mL idx : Nat} {ty : FieldType} {rm : Room} {As : List Value} {w' : va_W} {r' : Int32} (hC : CI l y b mL ty rm D tys As w w' r') (hl : ls.size = nL) (h1 : Cond.methodLink own idx y ∈ TT) (h2 : Cond.static y ∈ TT) (h3 : Cond.initialized y.cls ∈ TT) (h4 : Cond.code y b mL (some ty) ∈ TT) {na : Nat} (hna : As.length = na) (hd9 : y.cls ≠ "java/lang/invoke/MethodHandle" ∧ y.cls ≠ "java/lang/invoke/VarHandle" ∧ (parseMethodDescriptor y.desc).map (fun d => d.parameters.length) = some na) (hrm : rm.cells = 0 ∧ rm.slots = 0) (hR : rm.frames + 1 ≤ R.frames ∧ 8 + (mL + 11) + rm.locals ≤ R.locals) (hcs : cells ≤ R.cells ∧ slots ≤ R.slots) {st : List Value} (hst : st = As.reverse ++ rest) (hre : (rest.map fun v => v.category).sum ≤ 8) (hd : decode cc pc = .ok (.invokestatic idx, 3)) (kk : ∀ (H1 : Heap) (locs1 : List Loc), WD D A H0 w' H1 locs1 → W p l e R s m args below meth c H1 locs1 cells slots Q (F0 m (pc + 3) ls (.int r' :: rest))) : W p l e R s m args below meth c H locs cells slots Q (F0 m pc ls st) := by
  have hF := wd_free hw
  refine va_calli (va_runS (As := As) (rest := rest) ⟨K.1, K.2.1, K.2.2.2.2.2.1, K.2.2.2.1, K.2.2.1⟩ (hC H.size) ⟨callB_of na K.2.2.1 (tt_c h4) rfl hrm.1 hrm.2 (K.2.2.1 _ h3) (K.2.2.1 _ h1) hd9 hR, K.2.2.1 _ h2⟩ ⟨fun a U g mk q => by obtain ⟨q0, q1, qP, qK, qD⟩ := q; exact ⟨q0, q1, qP, va_K.moved (u := U) (U := U.calling g mk a) (Vm.Alike.refl U.vm) qK, qD⟩, fun U hU hW => ⟨rfl, by rw [hU], by rw [hU]; exact hw.1, va_K.moved hW.alike K.2.2.2.2.1, hw.2.1.weaken (fun _ _ _ _ => trivial)⟩⟩ rfl hna hl hst (lv_room hre) hd hcs) hw.2.2.1 (fun q _ h => hF q h) hF (fun r9 u t H1 locs1 ht hvm hr9 hB hz1 hk1 hS => ?_)
  obtain ⟨hP1, hK1, hD1⟩ := hB
  rw [ht] at hP1
  rw [hr9]
  exact kk H1 locs1 ⟨hP1, hD1.weaken (fun k q _ h => hF q.1 h), hS, hw.2.2.2⟩
end KitB
theorem en_v {l : Launch} {y : MethodName} {b : ByteArray} {nL : Nat} {rm : Room} {D : va_G} {tys : List (ClassId × FieldType)} {av : List Value} {w w' : va_W} (hp : plainName y.cls = true) (hn : (lg_sl av).length ≤ nL)
    (h : ∀ {p : Program} {e : Env} {s : State} {m : MethodId} {args : Array Value} {below : List Frame} {meth : Method} {c : Code} {A : Nat → Prop} {ls : Array Slot} {Q : State → Prop}, MC p s m args meth c b y.cls nL D tys → WD D A s.heap w s.heap [] → lv_has ls nL (lv_args 0 av) → (∀ {w1 : va_W} {H1 : Heap} {locs1 : List Loc} {pc : Nat} {ls1 : Array Slot}, w' = w1 → WD D A s.heap w1 H1 locs1 → decode b pc = .ok (.return_, 1) → W p l e rm s m args below meth c H1 locs1 0 0 Q (F0 m pc ls1 [])) → W p l e rm s m args below meth c s.heap [] 0 0 Q (F0 m 0 ls [])) : CV l y b nL rm D tys av w w' := by
  intro sz
  refine Met.ofW (cc := b) (maxL := nL) (ret := none) hp rfl ?_
  intro p e s m args below meth c s₁ B hml hv
  obtain ⟨rfl, hsz, hP, hK, hD0⟩ := hv
  subst hsz
  have hts := atoms_spec (ws := Cond.code y b nL none :: TT) B.pre
  have hl := lv_entry av (n := nL) hn
  rw [lg_entry_eq]
  refine h ⟨B.exec, B.bytes, fun w hw => hts w (List.mem_cons_of_mem _ hw), findClass_of_methodNamed B.named, hK, hml, B.notSynchronized⟩ ⟨hP, hD0.self, va_S.rf, fun q h => Or.inr h⟩ hl ?_
  intro w1 H1 locs1 pc ls1 e1 hw hd
  subst e1
  exact W.vret B.exec B.bytes B.returns (fun t ht hW => ⟨⟨(), rfl, trivial, by rw [ht]; exact hw.1, va_K.moved hW.alike hK, hw.2.1⟩, hw.2.2.1.F ht⟩) hw.2.2.1.2.2 hd B.notSynchronized
theorem en_i {l : Launch} {y : MethodName} {b : ByteArray} {nL : Nat} {ty : FieldType} {rm : Room} {D : va_G} {tys : List (ClassId × FieldType)} {av : List Value} {w w' : va_W} {r' : Int32} (hp : plainName y.cls = true) (hn : (lg_sl av).length ≤ nL) (hz : narrow ty (.int r') = .int r')
    (h : ∀ {p : Program} {e : Env} {s : State} {m : MethodId} {args : Array Value} {below : List Frame} {meth : Method} {c : Code} {A : Nat → Prop} {ls : Array Slot} {Q : State → Prop}, MC p s m args meth c b y.cls nL D tys → WD D A s.heap w s.heap [] → lv_has ls nL (lv_args 0 av) → (∀ {w1 : va_W} {H1 : Heap} {locs1 : List Loc} {pc : Nat} {ls1 : Array Slot} {r1 : Int32}, w' = w1 → r' = r1 → WD D A s.heap w1 H1 locs1 → decode b pc = .ok (.ireturn, 1) → W p l e rm s m args below meth c H1 locs1 0 0 Q (F0 m pc ls1 [.int r1])) → W p l e rm s m args below meth c s.heap [] 0 0 Q (F0 m 0 ls [])) : CI l y b nL ty rm D tys av w w' r' := by
  intro sz
  refine Met.ofW (cc := b) (maxL := nL) (ret := (some ty)) hp rfl ?_
  intro p e s m args below meth c s₁ B hml hv
  obtain ⟨rfl, hsz, hP, hK, hD0⟩ := hv
  subst hsz
  have hts := atoms_spec (ws := Cond.code y b nL (some ty) :: TT) B.pre
  have hl := lv_entry av (n := nL) hn
  rw [lg_entry_eq]
  refine h ⟨B.exec, B.bytes, fun w hw => hts w (List.mem_cons_of_mem _ hw), findClass_of_methodNamed B.named, hK, hml, B.notSynchronized⟩ ⟨hP, hD0.self, va_S.rf, fun q h => Or.inr h⟩ hl ?_
  intro w1 H1 locs1 pc ls1 r1 e1 e2 hw hd
  subst e1 e2
  exact W.zret B.exec B.bytes B.returns hz (fun t ht hW => ⟨⟨r', (), rfl, rfl, by rw [ht]; exact hw.1, va_K.moved hW.alike hK, hw.2.1⟩, hw.2.2.1.F ht⟩) hw.2.2.1.2.2 hd B.notSynchronized
theorem en_l {l : Launch} {y : MethodName} {b : ByteArray} {nL : Nat} {rm : Room} {D : va_G} {tys : List (ClassId × FieldType)} {av : List Value} {w w' : va_W} {r' : Int64} (hp : plainName y.cls = true) (hn : (lg_sl av).length ≤ nL)
    (h : ∀ {p : Program} {e : Env} {s : State} {m : MethodId} {args : Array Value} {below : List Frame} {meth : Method} {c : Code} {A : Nat → Prop} {ls : Array Slot} {Q : State → Prop}, MC p s m args meth c b y.cls nL D tys → WD D A s.heap w s.heap [] → lv_has ls nL (lv_args 0 av) → (∀ {w1 : va_W} {H1 : Heap} {locs1 : List Loc} {pc : Nat} {ls1 : Array Slot} {r1 : Int64}, w' = w1 → r' = r1 → WD D A s.heap w1 H1 locs1 → decode b pc = .ok (.lreturn, 1) → W p l e rm s m args below meth c H1 locs1 0 0 Q (F0 m pc ls1 [.long r1])) → W p l e rm s m args below meth c s.heap [] 0 0 Q (F0 m 0 ls [])) : CL l y b nL rm D tys av w w' r' := by
  intro sz
  refine Met.ofW (cc := b) (maxL := nL) (ret := (some .long)) hp rfl ?_
  intro p e s m args below meth c s₁ B hml hv
  obtain ⟨rfl, hsz, hP, hK, hD0⟩ := hv
  subst hsz
  have hts := atoms_spec (ws := Cond.code y b nL (some .long) :: TT) B.pre
  have hl := lv_entry av (n := nL) hn
  rw [lg_entry_eq]
  refine h ⟨B.exec, B.bytes, fun w hw => hts w (List.mem_cons_of_mem _ hw), findClass_of_methodNamed B.named, hK, hml, B.notSynchronized⟩ ⟨hP, hD0.self, va_S.rf, fun q h => Or.inr h⟩ hl ?_
  intro w1 H1 locs1 pc ls1 r1 e1 e2 hw hd
  subst e1 e2
  exact W.lret B.exec B.bytes B.returns (fun t ht hW => ⟨⟨r', (), rfl, rfl, by rw [ht]; exact hw.1, va_K.moved hW.alike hK, hw.2.1⟩, hw.2.2.1.F ht⟩) hw.2.2.1.2.2 hd B.notSynchronized
end
section
def pdF (a : Nat → Nat) (cA : Nat → ClassId) (σ : PS) : va_W := [
  (a 0, .inr (7, [.ref (a 1), .ref (a 2), .ref (a 3), .ref (a 14), .ref (a 10), .ref (a 4), .ref (a 5), .ref (a 6), .ref (a 7), .int (σ.1 40)])),
  (a 1, .inr (5, [.int (σ.1 0), .int (σ.1 1), .int (σ.1 2), .int (σ.1 3), .int (σ.1 4), .int (σ.1 5), .int (σ.1 6), .int (σ.1 7), .int (σ.1 8), .int (σ.1 9), .int (σ.1 10), .int (σ.1 11), .int (σ.1 12)])),
  (a 2, .inr (4, [.int (σ.1 13), .int (σ.1 14), .int (σ.1 15), .int (σ.1 16), .int (σ.1 17)])),
  (a 3, .inr (1, [.int (σ.1 18), .int (σ.1 19), .int (σ.1 20), .int (σ.1 21), .int (σ.1 22), .int (σ.1 23), .int (σ.1 24), .int (σ.1 25), .int (σ.1 26), .int (σ.1 27), .int (σ.1 28), .int (σ.1 29), .int (σ.1 30), .ref (a 8), .ref (a 9)])),
  (a 4, .inr (6, [.ref (a 13), .int (σ.1 31), .int (σ.1 32), .int (σ.1 33)])),
  (a 5, .inr (0, [.ref (a 11), .int (σ.1 34)])),
  (a 6, .inr (3, [.ref (a 15), .ref (a 12), .int (σ.1 35), .int (σ.1 36), .int (σ.1 37), .int (σ.1 38), .int (σ.1 39)])),
  (a 7, .inl (cA 0, 512, .inl (σ.2.1 0))),
  (a 8, .inl (cA 1, 20, .inl (σ.2.1 1))),
  (a 9, .inl (cA 2, 20, .inl (σ.2.1 2))),
  (a 10, .inl (cA 3, 3, .inl (σ.2.1 3))),
  (a 11, .inl (cA 4, 160, .inl (σ.2.1 4))),
  (a 12, .inl (cA 5, 4096, .inl (σ.2.1 5))),
  (a 13, .inl (cA 6, 6000, .inr (.inl σ.2.2))),
  (a 14, .inl (cA 7, 3, .inr (.inr (.inr (.inr (fun j => some (a (16 + j)))))))),
  (a 15, .inl (cA 8, 16, .inr (.inr (.inr (.inr (fun j => some (a (25 + j)))))))),
  (a 16, .inr (1, [.int (σ.1 41), .int (σ.1 42), .int (σ.1 43), .int (σ.1 44), .int (σ.1 45), .int (σ.1 46), .int (σ.1 47), .int (σ.1 48), .int (σ.1 49), .int (σ.1 50), .int (σ.1 51), .int (σ.1 52), .int (σ.1 53), .ref (a 19), .ref (a 20)])),
  (a 17, .inr (1, [.int (σ.1 54), .int (σ.1 55), .int (σ.1 56), .int (σ.1 57), .int (σ.1 58), .int (σ.1 59), .int (σ.1 60), .int (σ.1 61), .int (σ.1 62), .int (σ.1 63), .int (σ.1 64), .int (σ.1 65), .int (σ.1 66), .ref (a 21), .ref (a 22)])),
  (a 18, .inr (1, [.int (σ.1 67), .int (σ.1 68), .int (σ.1 69), .int (σ.1 70), .int (σ.1 71), .int (σ.1 72), .int (σ.1 73), .int (σ.1 74), .int (σ.1 75), .int (σ.1 76), .int (σ.1 77), .int (σ.1 78), .int (σ.1 79), .ref (a 23), .ref (a 24)])),
  (a 19, .inl (cA 9, 20, .inl (σ.2.1 6))),
  (a 20, .inl (cA 10, 20, .inl (σ.2.1 7))),
  (a 21, .inl (cA 11, 20, .inl (σ.2.1 8))),
  (a 22, .inl (cA 12, 20, .inl (σ.2.1 9))),
  (a 23, .inl (cA 13, 20, .inl (σ.2.1 10))),
  (a 24, .inl (cA 14, 20, .inl (σ.2.1 11)))]
def pdO (a : Nat → Nat) (σ : PS) : va_W := (List.range 16).map (fun j => (a (25 + j), .inr (2, [.int (σ.2.1 12 j), .int (σ.2.1 13 j), .int (σ.2.1 14 j), .int (σ.2.1 15 j), .int (σ.2.1 16 j), .int (σ.2.1 17 j), .int (σ.2.1 18 j)])))
def pdW (a : Nat → Nat) (cA : Nat → ClassId) (σ : PS) : va_W := pdF a cA σ ++ pdO a σ
def pdT (cA : Nat → ClassId) : List (ClassId × FieldType) := [(cA 0, .int), (cA 1, .int), (cA 2, .int), (cA 3, .boolean), (cA 4, .int), (cA 5, .byte), (cA 6, .long), (cA 7, .object "PageDesk$Layout"), (cA 8, .object "PageDesk$Other"), (cA 9, .int), (cA 10, .int), (cA 11, .int), (cA 12, .int), (cA 13, .int), (cA 14, .int)]
def mdW (a : Nat → Nat) (cA : Nat → ClassId) (σ : PS) : va_W := [
  (a 0, .inr (8, [.int (σ.1 0), .ref (a 1), .ref (a 2), .ref (a 3), .int (σ.1 4), .int (σ.1 5), .int (σ.1 6), .int (σ.1 7), .int (σ.1 8), .ref (a 4), .int (σ.1 10), .int (σ.1 11), .int (σ.1 12), .int (σ.1 13), .int (σ.1 14), .int (σ.1 15), .int (σ.1 16), .int (σ.1 17), .int (σ.1 18), .int (σ.1 19), .int (σ.1 20), .int (σ.1 21), .int (σ.1 22), .int (σ.1 23), .int (σ.1 24), .int (σ.1 25), .ref (a 5), .int (σ.1 27), .ref (a 6), .int (σ.1 29), .ref (a 7), .int (σ.1 31), .ref (a 8)])),
  (a 1, .inl (cA 0, 53, .inl (σ.2.1 0))),
  (a 2, .inl (cA 1, 159, .inl (σ.2.1 1))),
  (a 3, .inl (cA 2, 3, .inl (σ.2.1 2))),
  (a 4, .inl (cA 3, 512, .inl (σ.2.1 3))),
  (a 5, .inl (cA 4, 24000, .inl (σ.2.1 4))),
  (a 6, .inl (cA 5, 160, .inl (σ.2.1 5))),
  (a 7, .inl (cA 6, 112, .inl (σ.2.1 6))),
  (a 8, .inl (cA 7, 4096, .inl (σ.2.1 7)))]
def mdT (cA : Nat → ClassId) : List (ClassId × FieldType) := [(cA 0, .int), (cA 1, .int), (cA 2, .boolean), (cA 3, .int), (cA 4, .int), (cA 5, .int), (cA 6, .int), (cA 7, .byte)]
section KitW
variable {p : Program} {l : Launch} {e : Env} {R : Room} {s : State} {m : MethodId} {args : Array Value} {below : List Frame} {meth : Method} {c : Code} {H : Heap} {locs : List Loc} {cells slots : Nat} {Q : State → Prop} {cc : ByteArray} {pc : Nat} {ls : Array Slot} {rest : List Value} {own : String} {nL : Nat} {D : va_G} {tys : List (ClassId × FieldType)} {A : Nat → Prop} {H0 : Heap} {a : Nat → Nat} {cA : Nat → ClassId} {σ : PS}
theorem pdW_o {j : Nat} (hj : j < 16) : (pdW a cA σ)[25 + j]? = some (a (25 + j), .inr (2, [.int (σ.2.1 12 j), .int (σ.2.1 13 j), .int (σ.2.1 14 j), .int (σ.2.1 15 j), .int (σ.2.1 16 j), .int (σ.2.1 17 j), .int (σ.2.1 18 j)])) := by
  have e : (pdF a cA σ).length = 25 := rfl
  unfold pdW
  rw [List.getElem?_append_right (by rw [e]; omega), e, Nat.add_sub_cancel_left]
  simp only [pdO, List.getElem?_map, List.getElem?_range hj, Option.map_some]
theorem pdW_os0 {j : Nat} {v : Int32} (hj : j < 16) : (pdW a cA σ).set (25 + j) (a (25 + j), .inr (2, [.int v, .int (σ.2.1 13 j), .int (σ.2.1 14 j), .int (σ.2.1 15 j), .int (σ.2.1 16 j), .int (σ.2.1 17 j), .int (σ.2.1 18 j)])) = pdW a cA (upA σ 12 j v) := by
  have e : (pdF a cA σ).length = 25 := rfl
  unfold pdW
  rw [List.set_append_right _ _ (by rw [e]; omega), e, Nat.add_sub_cancel_left]
  refine congrArg (fun z => pdF a cA σ ++ z) (?_ : _ = pdO a (upA σ 12 j v))
  apply List.ext_getElem?
  intro i
  simp only [pdO, List.getElem?_set, List.getElem?_map, List.length_map, List.length_range]
  by_cases hi : j = i
  · subst hi
    simp [hj, upA, va_up, upd]
  · simp only [if_neg hi]
    by_cases h16 : i < 16
    · simp [h16, upA, va_up, upd, Ne.symm hi]
    · simp [h16]
theorem pdW_os1 {j : Nat} {v : Int32} (hj : j < 16) : (pdW a cA σ).set (25 + j) (a (25 + j), .inr (2, [.int (σ.2.1 12 j), .int v, .int (σ.2.1 14 j), .int (σ.2.1 15 j), .int (σ.2.1 16 j), .int (σ.2.1 17 j), .int (σ.2.1 18 j)])) = pdW a cA (upA σ 13 j v) := by
  have e : (pdF a cA σ).length = 25 := rfl
  unfold pdW
  rw [List.set_append_right _ _ (by rw [e]; omega), e, Nat.add_sub_cancel_left]
  refine congrArg (fun z => pdF a cA σ ++ z) (?_ : _ = pdO a (upA σ 13 j v))
  apply List.ext_getElem?
  intro i
  simp only [pdO, List.getElem?_set, List.getElem?_map, List.length_map, List.length_range]
  by_cases hi : j = i
  · subst hi
    simp [hj, upA, va_up, upd]
  · simp only [if_neg hi]
    by_cases h16 : i < 16
    · simp [h16, upA, va_up, upd, Ne.symm hi]
    · simp [h16]
theorem pdW_os2 {j : Nat} {v : Int32} (hj : j < 16) : (pdW a cA σ).set (25 + j) (a (25 + j), .inr (2, [.int (σ.2.1 12 j), .int (σ.2.1 13 j), .int v, .int (σ.2.1 15 j), .int (σ.2.1 16 j), .int (σ.2.1 17 j), .int (σ.2.1 18 j)])) = pdW a cA (upA σ 14 j v) := by
  have e : (pdF a cA σ).length = 25 := rfl
  unfold pdW
  rw [List.set_append_right _ _ (by rw [e]; omega), e, Nat.add_sub_cancel_left]
  refine congrArg (fun z => pdF a cA σ ++ z) (?_ : _ = pdO a (upA σ 14 j v))
  apply List.ext_getElem?
  intro i
  simp only [pdO, List.getElem?_set, List.getElem?_map, List.length_map, List.length_range]
  by_cases hi : j = i
  · subst hi
    simp [hj, upA, va_up, upd]
  · simp only [if_neg hi]
    by_cases h16 : i < 16
    · simp [h16, upA, va_up, upd, Ne.symm hi]
    · simp [h16]
theorem pdW_os3 {j : Nat} {v : Int32} (hj : j < 16) : (pdW a cA σ).set (25 + j) (a (25 + j), .inr (2, [.int (σ.2.1 12 j), .int (σ.2.1 13 j), .int (σ.2.1 14 j), .int v, .int (σ.2.1 16 j), .int (σ.2.1 17 j), .int (σ.2.1 18 j)])) = pdW a cA (upA σ 15 j v) := by
  have e : (pdF a cA σ).length = 25 := rfl
  unfold pdW
  rw [List.set_append_right _ _ (by rw [e]; omega), e, Nat.add_sub_cancel_left]
  refine congrArg (fun z => pdF a cA σ ++ z) (?_ : _ = pdO a (upA σ 15 j v))
  apply List.ext_getElem?
  intro i
  simp only [pdO, List.getElem?_set, List.getElem?_map, List.length_map, List.length_range]
  by_cases hi : j = i
  · subst hi
    simp [hj, upA, va_up, upd]
  · simp only [if_neg hi]
    by_cases h16 : i < 16
    · simp [h16, upA, va_up, upd, Ne.symm hi]
    · simp [h16]
theorem pdW_os4 {j : Nat} {v : Int32} (hj : j < 16) : (pdW a cA σ).set (25 + j) (a (25 + j), .inr (2, [.int (σ.2.1 12 j), .int (σ.2.1 13 j), .int (σ.2.1 14 j), .int (σ.2.1 15 j), .int v, .int (σ.2.1 17 j), .int (σ.2.1 18 j)])) = pdW a cA (upA σ 16 j v) := by
  have e : (pdF a cA σ).length = 25 := rfl
  unfold pdW
  rw [List.set_append_right _ _ (by rw [e]; omega), e, Nat.add_sub_cancel_left]
  refine congrArg (fun z => pdF a cA σ ++ z) (?_ : _ = pdO a (upA σ 16 j v))
  apply List.ext_getElem?
  intro i
  simp only [pdO, List.getElem?_set, List.getElem?_map, List.length_map, List.length_range]
  by_cases hi : j = i
  · subst hi
    simp [hj, upA, va_up, upd]
  · simp only [if_neg hi]
    by_cases h16 : i < 16
    · simp [h16, upA, va_up, upd, Ne.symm hi]
    · simp [h16]
theorem pdW_os5 {j : Nat} {v : Int32} (hj : j < 16) : (pdW a cA σ).set (25 + j) (a (25 + j), .inr (2, [.int (σ.2.1 12 j), .int (σ.2.1 13 j), .int (σ.2.1 14 j), .int (σ.2.1 15 j), .int (σ.2.1 16 j), .int v, .int (σ.2.1 18 j)])) = pdW a cA (upA σ 17 j v) := by
  have e : (pdF a cA σ).length = 25 := rfl
  unfold pdW
  rw [List.set_append_right _ _ (by rw [e]; omega), e, Nat.add_sub_cancel_left]
  refine congrArg (fun z => pdF a cA σ ++ z) (?_ : _ = pdO a (upA σ 17 j v))
  apply List.ext_getElem?
  intro i
  simp only [pdO, List.getElem?_set, List.getElem?_map, List.length_map, List.length_range]
  by_cases hi : j = i
  · subst hi
    simp [hj, upA, va_up, upd]
  · simp only [if_neg hi]
    by_cases h16 : i < 16
    · simp [h16, upA, va_up, upd, Ne.symm hi]
    · simp [h16]
theorem pdW_os6 {j : Nat} {v : Int32} (hj : j < 16) : (pdW a cA σ).set (25 + j) (a (25 + j), .inr (2, [.int (σ.2.1 12 j), .int (σ.2.1 13 j), .int (σ.2.1 14 j), .int (σ.2.1 15 j), .int (σ.2.1 16 j), .int (σ.2.1 17 j), .int v])) = pdW a cA (upA σ 18 j v) := by
  have e : (pdF a cA σ).length = 25 := rfl
  unfold pdW
  rw [List.set_append_right _ _ (by rw [e]; omega), e, Nat.add_sub_cancel_left]
  refine congrArg (fun z => pdF a cA σ ++ z) (?_ : _ = pdO a (upA σ 18 j v))
  apply List.ext_getElem?
  intro i
  simp only [pdO, List.getElem?_set, List.getElem?_map, List.length_map, List.length_range]
  by_cases hi : j = i
  · subst hi
    simp [hj, upA, va_up, upd]
  · simp only [if_neg hi]
    by_cases h16 : i < 16
    · simp [h16, upA, va_up, upd, Ne.symm hi]
    · simp [h16]
theorem gD_0_0 (K : MC p s m args meth c cc own nL D tys) (hw : WD D A H0 (pdW a cA σ) H locs) {idx : Nat} (hl : Cond.fieldLink own idx "PageDesk" "parser" "LPageDesk$Parser;" ∈ TT) (hd : decode cc pc = .ok (.getfield idx, 3)) (kk : W p l e R s m args below meth c H locs cells slots Q (F0 m (pc + 3) ls (.ref (a 1) :: rest))) : W p l e R s m args below meth c H locs cells slots Q (F0 m pc ls (.ref (a 0) :: rest)) := gG K hw 0 0 (ci := 7) (T := TX7) (N := 10) rfl rfl (by decide) iX7 hl rfl hd kk
theorem gD_0_1 (K : MC p s m args meth c cc own nL D tys) (hw : WD D A H0 (pdW a cA σ) H locs) {idx : Nat} (hl : Cond.fieldLink own idx "PageDesk" "paper" "LPageDesk$Paper;" ∈ TT) (hd : decode cc pc = .ok (.getfield idx, 3)) (kk : W p l e R s m args below meth c H locs cells slots Q (F0 m (pc + 3) ls (.ref (a 2) :: rest))) : W p l e R s m args below meth c H locs cells slots Q (F0 m pc ls (.ref (a 0) :: rest)) := gG K hw 0 1 (ci := 7) (T := TX7) (N := 10) rfl rfl (by decide) iX7 hl rfl hd kk
theorem gD_0_2 (K : MC p s m args meth c cc own nL D tys) (hw : WD D A H0 (pdW a cA σ) H locs) {idx : Nat} (hl : Cond.fieldLink own idx "PageDesk" "layout" "LPageDesk$Layout;" ∈ TT) (hd : decode cc pc = .ok (.getfield idx, 3)) (kk : W p l e R s m args below meth c H locs cells slots Q (F0 m (pc + 3) ls (.ref (a 3) :: rest))) : W p l e R s m args below meth c H locs cells slots Q (F0 m pc ls (.ref (a 0) :: rest)) := gG K hw 0 2 (ci := 7) (T := TX7) (N := 10) rfl rfl (by decide) iX7 hl rfl hd kk
theorem gD_0_3 (K : MC p s m args meth c cc own nL D tys) (hw : WD D A H0 (pdW a cA σ) H locs) {idx : Nat} (hl : Cond.fieldLink own idx "PageDesk" "slots" "[LPageDesk$Layout;" ∈ TT) (hd : decode cc pc = .ok (.getfield idx, 3)) (kk : W p l e R s m args below meth c H locs cells slots Q (F0 m (pc + 3) ls (.ref (a 14) :: rest))) : W p l e R s m args below meth c H locs cells slots Q (F0 m pc ls (.ref (a 0) :: rest)) := gG K hw 0 3 (ci := 7) (T := TX7) (N := 10) rfl rfl (by decide) iX7 hl rfl hd kk
theorem gD_0_4 (K : MC p s m args meth c cc own nL D tys) (hw : WD D A H0 (pdW a cA σ) H locs) {idx : Nat} (hl : Cond.fieldLink own idx "PageDesk" "slotFilled" "[Z" ∈ TT) (hd : decode cc pc = .ok (.getfield idx, 3)) (kk : W p l e R s m args below meth c H locs cells slots Q (F0 m (pc + 3) ls (.ref (a 10) :: rest))) : W p l e R s m args below meth c H locs cells slots Q (F0 m pc ls (.ref (a 0) :: rest)) := gG K hw 0 4 (ci := 7) (T := TX7) (N := 10) rfl rfl (by decide) iX7 hl rfl hd kk
theorem gD_0_5 (K : MC p s m args meth c cc own nL D tys) (hw : WD D A H0 (pdW a cA σ) H locs) {idx : Nat} (hl : Cond.fieldLink own idx "PageDesk" "sheet" "LPageDesk$Sheet;" ∈ TT) (hd : decode cc pc = .ok (.getfield idx, 3)) (kk : W p l e R s m args below meth c H locs cells slots Q (F0 m (pc + 3) ls (.ref (a 4) :: rest))) : W p l e R s m args below meth c H locs cells slots Q (F0 m pc ls (.ref (a 0) :: rest)) := gG K hw 0 5 (ci := 7) (T := TX7) (N := 10) rfl rfl (by decide) iX7 hl rfl hd kk
theorem gD_0_6 (K : MC p s m args meth c cc own nL D tys) (hw : WD D A H0 (pdW a cA σ) H locs) {idx : Nat} (hl : Cond.fieldLink own idx "PageDesk" "donePages" "LPageDesk$DonePages;" ∈ TT) (hd : decode cc pc = .ok (.getfield idx, 3)) (kk : W p l e R s m args below meth c H locs cells slots Q (F0 m (pc + 3) ls (.ref (a 5) :: rest))) : W p l e R s m args below meth c H locs cells slots Q (F0 m pc ls (.ref (a 0) :: rest)) := gG K hw 0 6 (ci := 7) (T := TX7) (N := 10) rfl rfl (by decide) iX7 hl rfl hd kk
theorem gD_0_7 (K : MC p s m args meth c cc own nL D tys) (hw : WD D A H0 (pdW a cA σ) H locs) {idx : Nat} (hl : Cond.fieldLink own idx "PageDesk" "others" "LPageDesk$OtherQueue;" ∈ TT) (hd : decode cc pc = .ok (.getfield idx, 3)) (kk : W p l e R s m args below meth c H locs cells slots Q (F0 m (pc + 3) ls (.ref (a 6) :: rest))) : W p l e R s m args below meth c H locs cells slots Q (F0 m pc ls (.ref (a 0) :: rest)) := gG K hw 0 7 (ci := 7) (T := TX7) (N := 10) rfl rfl (by decide) iX7 hl rfl hd kk
theorem gD_0_8 (K : MC p s m args meth c cc own nL D tys) (hw : WD D A H0 (pdW a cA σ) H locs) {idx : Nat} (hl : Cond.fieldLink own idx "PageDesk" "toldSteps" "[I" ∈ TT) (hd : decode cc pc = .ok (.getfield idx, 3)) (kk : W p l e R s m args below meth c H locs cells slots Q (F0 m (pc + 3) ls (.ref (a 7) :: rest))) : W p l e R s m args below meth c H locs cells slots Q (F0 m pc ls (.ref (a 0) :: rest)) := gG K hw 0 8 (ci := 7) (T := TX7) (N := 10) rfl rfl (by decide) iX7 hl rfl hd kk
theorem gD_0_9 (K : MC p s m args meth c cc own nL D tys) (hw : WD D A H0 (pdW a cA σ) H locs) {idx : Nat} (hl : Cond.fieldLink own idx "PageDesk" "bytesCome" "I" ∈ TT) (hd : decode cc pc = .ok (.getfield idx, 3)) (kk : W p l e R s m args below meth c H locs cells slots Q (F0 m (pc + 3) ls (.int (σ.1 40) :: rest))) : W p l e R s m args below meth c H locs cells slots Q (F0 m pc ls (.ref (a 0) :: rest)) := gG K hw 0 9 (ci := 7) (T := TX7) (N := 10) rfl rfl (by decide) iX7 hl rfl hd kk
theorem pD_0_9 (K : MC p s m args meth c cc own nL D tys) (hw : WD D A H0 (pdW a cA σ) H locs) {idx : Nat} {v : Int32} (hl : Cond.fieldLink own idx "PageDesk" "bytesCome" "I" ∈ TT) (hd : decode cc pc = .ok (.putfield idx, 3)) (kk : ∀ (H1 : Heap) (locs1 : List Loc), WD D A H0 (pdW a cA (upS σ 40 v)) H1 locs1 → W p l e R s m args below meth c H1 locs1 cells slots Q (F0 m (pc + 3) ls rest)) : W p l e R s m args below meth c H locs cells slots Q (F0 m pc ls (.int v :: .ref (a 0) :: rest)) := gP K hw 0 9 (ci := 7) (T := TX7) (N := 10) (ty := .int) rfl rfl (by decide) iX7 tyX7_ok nmX7 hl rfl rfl rfl rfl (Nat.le_of_ble_eq_true rfl) hd (fun H1 locs1 h => kk H1 locs1 h)
theorem gD_1_0 (K : MC p s m args meth c cc own nL D tys) (hw : WD D A H0 (pdW a cA σ) H locs) {idx : Nat} (hl : Cond.fieldLink own idx "PageDesk$Parser" "family" "I" ∈ TT) (hd : decode cc pc = .ok (.getfield idx, 3)) (kk : W p l e R s m args below meth c H locs cells slots Q (F0 m (pc + 3) ls (.int (σ.1 0) :: rest))) : W p l e R s m args below meth c H locs cells slots Q (F0 m pc ls (.ref (a 1) :: rest)) := gG K hw 1 0 (ci := 5) (T := TX5) (N := 13) rfl rfl (by decide) iX5 hl rfl hd kk
theorem pD_1_0 (K : MC p s m args meth c cc own nL D tys) (hw : WD D A H0 (pdW a cA σ) H locs) {idx : Nat} {v : Int32} (hl : Cond.fieldLink own idx "PageDesk$Parser" "family" "I" ∈ TT) (hd : decode cc pc = .ok (.putfield idx, 3)) (kk : ∀ (H1 : Heap) (locs1 : List Loc), WD D A H0 (pdW a cA (upS σ 0 v)) H1 locs1 → W p l e R s m args below meth c H1 locs1 cells slots Q (F0 m (pc + 3) ls rest)) : W p l e R s m args below meth c H locs cells slots Q (F0 m pc ls (.int v :: .ref (a 1) :: rest)) := gP K hw 1 0 (ci := 5) (T := TX5) (N := 13) (ty := .int) rfl rfl (by decide) iX5 tyX5_ok nmX5 hl rfl rfl rfl rfl (Nat.le_of_ble_eq_true rfl) hd (fun H1 locs1 h => kk H1 locs1 h)
theorem gD_1_1 (K : MC p s m args meth c cc own nL D tys) (hw : WD D A H0 (pdW a cA σ) H locs) {idx : Nat} (hl : Cond.fieldLink own idx "PageDesk$Parser" "group" "I" ∈ TT) (hd : decode cc pc = .ok (.getfield idx, 3)) (kk : W p l e R s m args below meth c H locs cells slots Q (F0 m (pc + 3) ls (.int (σ.1 1) :: rest))) : W p l e R s m args below meth c H locs cells slots Q (F0 m pc ls (.ref (a 1) :: rest)) := gG K hw 1 1 (ci := 5) (T := TX5) (N := 13) rfl rfl (by decide) iX5 hl rfl hd kk
theorem pD_1_1 (K : MC p s m args meth c cc own nL D tys) (hw : WD D A H0 (pdW a cA σ) H locs) {idx : Nat} {v : Int32} (hl : Cond.fieldLink own idx "PageDesk$Parser" "group" "I" ∈ TT) (hd : decode cc pc = .ok (.putfield idx, 3)) (kk : ∀ (H1 : Heap) (locs1 : List Loc), WD D A H0 (pdW a cA (upS σ 1 v)) H1 locs1 → W p l e R s m args below meth c H1 locs1 cells slots Q (F0 m (pc + 3) ls rest)) : W p l e R s m args below meth c H locs cells slots Q (F0 m pc ls (.int v :: .ref (a 1) :: rest)) := gP K hw 1 1 (ci := 5) (T := TX5) (N := 13) (ty := .int) rfl rfl (by decide) iX5 tyX5_ok nmX5 hl rfl rfl rfl rfl (Nat.le_of_ble_eq_true rfl) hd (fun H1 locs1 h => kk H1 locs1 h)
theorem gD_1_2 (K : MC p s m args meth c cc own nL D tys) (hw : WD D A H0 (pdW a cA σ) H locs) {idx : Nat} (hl : Cond.fieldLink own idx "PageDesk$Parser" "value" "I" ∈ TT) (hd : decode cc pc = .ok (.getfield idx, 3)) (kk : W p l e R s m args below meth c H locs cells slots Q (F0 m (pc + 3) ls (.int (σ.1 2) :: rest))) : W p l e R s m args below meth c H locs cells slots Q (F0 m pc ls (.ref (a 1) :: rest)) := gG K hw 1 2 (ci := 5) (T := TX5) (N := 13) rfl rfl (by decide) iX5 hl rfl hd kk
theorem pD_1_2 (K : MC p s m args meth c cc own nL D tys) (hw : WD D A H0 (pdW a cA σ) H locs) {idx : Nat} {v : Int32} (hl : Cond.fieldLink own idx "PageDesk$Parser" "value" "I" ∈ TT) (hd : decode cc pc = .ok (.putfield idx, 3)) (kk : ∀ (H1 : Heap) (locs1 : List Loc), WD D A H0 (pdW a cA (upS σ 2 v)) H1 locs1 → W p l e R s m args below meth c H1 locs1 cells slots Q (F0 m (pc + 3) ls rest)) : W p l e R s m args below meth c H locs cells slots Q (F0 m pc ls (.int v :: .ref (a 1) :: rest)) := gP K hw 1 2 (ci := 5) (T := TX5) (N := 13) (ty := .int) rfl rfl (by decide) iX5 tyX5_ok nmX5 hl rfl rfl rfl rfl (Nat.le_of_ble_eq_true rfl) hd (fun H1 locs1 h => kk H1 locs1 h)
theorem gD_1_3 (K : MC p s m args meth c cc own nL D tys) (hw : WD D A H0 (pdW a cA σ) H locs) {idx : Nat} (hl : Cond.fieldLink own idx "PageDesk$Parser" "end" "I" ∈ TT) (hd : decode cc pc = .ok (.getfield idx, 3)) (kk : W p l e R s m args below meth c H locs cells slots Q (F0 m (pc + 3) ls (.int (σ.1 3) :: rest))) : W p l e R s m args below meth c H locs cells slots Q (F0 m pc ls (.ref (a 1) :: rest)) := gG K hw 1 3 (ci := 5) (T := TX5) (N := 13) rfl rfl (by decide) iX5 hl rfl hd kk
theorem pD_1_3 (K : MC p s m args meth c cc own nL D tys) (hw : WD D A H0 (pdW a cA σ) H locs) {idx : Nat} {v : Int32} (hl : Cond.fieldLink own idx "PageDesk$Parser" "end" "I" ∈ TT) (hd : decode cc pc = .ok (.putfield idx, 3)) (kk : ∀ (H1 : Heap) (locs1 : List Loc), WD D A H0 (pdW a cA (upS σ 3 v)) H1 locs1 → W p l e R s m args below meth c H1 locs1 cells slots Q (F0 m (pc + 3) ls rest)) : W p l e R s m args below meth c H locs cells slots Q (F0 m pc ls (.int v :: .ref (a 1) :: rest)) := gP K hw 1 3 (ci := 5) (T := TX5) (N := 13) (ty := .int) rfl rfl (by decide) iX5 tyX5_ok nmX5 hl rfl rfl rfl rfl (Nat.le_of_ble_eq_true rfl) hd (fun H1 locs1 h => kk H1 locs1 h)
theorem gD_1_4 (K : MC p s m args meth c cc own nL D tys) (hw : WD D A H0 (pdW a cA σ) H locs) {idx : Nat} (hl : Cond.fieldLink own idx "PageDesk$Parser" "signed" "Z" ∈ TT) (hd : decode cc pc = .ok (.getfield idx, 3)) (kk : W p l e R s m args below meth c H locs cells slots Q (F0 m (pc + 3) ls (.int (σ.1 4) :: rest))) : W p l e R s m args below meth c H locs cells slots Q (F0 m pc ls (.ref (a 1) :: rest)) := gG K hw 1 4 (ci := 5) (T := TX5) (N := 13) rfl rfl (by decide) iX5 hl rfl hd kk
theorem pD_1_4 (K : MC p s m args meth c cc own nL D tys) (hw : WD D A H0 (pdW a cA σ) H locs) {idx : Nat} {v : Int32} (hz : narrow .boolean (.int v) = .int v) (hf : fits .boolean (.int v) = true) (hl : Cond.fieldLink own idx "PageDesk$Parser" "signed" "Z" ∈ TT) (hd : decode cc pc = .ok (.putfield idx, 3)) (kk : ∀ (H1 : Heap) (locs1 : List Loc), WD D A H0 (pdW a cA (upS σ 4 v)) H1 locs1 → W p l e R s m args below meth c H1 locs1 cells slots Q (F0 m (pc + 3) ls rest)) : W p l e R s m args below meth c H locs cells slots Q (F0 m pc ls (.int v :: .ref (a 1) :: rest)) := gP K hw 1 4 (ci := 5) (T := TX5) (N := 13) (ty := .boolean) rfl rfl (by decide) iX5 tyX5_ok nmX5 hl rfl rfl hz hf (Nat.le_of_ble_eq_true rfl) hd (fun H1 locs1 h => kk H1 locs1 h)
theorem gD_1_5 (K : MC p s m args meth c cc own nL D tys) (hw : WD D A H0 (pdW a cA σ) H locs) {idx : Nat} (hl : Cond.fieldLink own idx "PageDesk$Parser" "dataLeft" "I" ∈ TT) (hd : decode cc pc = .ok (.getfield idx, 3)) (kk : W p l e R s m args below meth c H locs cells slots Q (F0 m (pc + 3) ls (.int (σ.1 5) :: rest))) : W p l e R s m args below meth c H locs cells slots Q (F0 m pc ls (.ref (a 1) :: rest)) := gG K hw 1 5 (ci := 5) (T := TX5) (N := 13) rfl rfl (by decide) iX5 hl rfl hd kk
theorem pD_1_5 (K : MC p s m args meth c cc own nL D tys) (hw : WD D A H0 (pdW a cA σ) H locs) {idx : Nat} {v : Int32} (hl : Cond.fieldLink own idx "PageDesk$Parser" "dataLeft" "I" ∈ TT) (hd : decode cc pc = .ok (.putfield idx, 3)) (kk : ∀ (H1 : Heap) (locs1 : List Loc), WD D A H0 (pdW a cA (upS σ 5 v)) H1 locs1 → W p l e R s m args below meth c H1 locs1 cells slots Q (F0 m (pc + 3) ls rest)) : W p l e R s m args below meth c H locs cells slots Q (F0 m pc ls (.int v :: .ref (a 1) :: rest)) := gP K hw 1 5 (ci := 5) (T := TX5) (N := 13) (ty := .int) rfl rfl (by decide) iX5 tyX5_ok nmX5 hl rfl rfl rfl rfl (Nat.le_of_ble_eq_true rfl) hd (fun H1 locs1 h => kk H1 locs1 h)
theorem gD_1_6 (K : MC p s m args meth c cc own nL D tys) (hw : WD D A H0 (pdW a cA σ) H locs) {idx : Nat} (hl : Cond.fieldLink own idx "PageDesk$Parser" "state" "I" ∈ TT) (hd : decode cc pc = .ok (.getfield idx, 3)) (kk : W p l e R s m args below meth c H locs cells slots Q (F0 m (pc + 3) ls (.int (σ.1 6) :: rest))) : W p l e R s m args below meth c H locs cells slots Q (F0 m pc ls (.ref (a 1) :: rest)) := gG K hw 1 6 (ci := 5) (T := TX5) (N := 13) rfl rfl (by decide) iX5 hl rfl hd kk
theorem pD_1_6 (K : MC p s m args meth c cc own nL D tys) (hw : WD D A H0 (pdW a cA σ) H locs) {idx : Nat} {v : Int32} (hl : Cond.fieldLink own idx "PageDesk$Parser" "state" "I" ∈ TT) (hd : decode cc pc = .ok (.putfield idx, 3)) (kk : ∀ (H1 : Heap) (locs1 : List Loc), WD D A H0 (pdW a cA (upS σ 6 v)) H1 locs1 → W p l e R s m args below meth c H1 locs1 cells slots Q (F0 m (pc + 3) ls rest)) : W p l e R s m args below meth c H locs cells slots Q (F0 m pc ls (.int v :: .ref (a 1) :: rest)) := gP K hw 1 6 (ci := 5) (T := TX5) (N := 13) (ty := .int) rfl rfl (by decide) iX5 tyX5_ok nmX5 hl rfl rfl rfl rfl (Nat.le_of_ble_eq_true rfl) hd (fun H1 locs1 h => kk H1 locs1 h)
theorem gD_1_7 (K : MC p s m args meth c cc own nL D tys) (hw : WD D A H0 (pdW a cA σ) H locs) {idx : Nat} (hl : Cond.fieldLink own idx "PageDesk$Parser" "valueState" "I" ∈ TT) (hd : decode cc pc = .ok (.getfield idx, 3)) (kk : W p l e R s m args below meth c H locs cells slots Q (F0 m (pc + 3) ls (.int (σ.1 7) :: rest))) : W p l e R s m args below meth c H locs cells slots Q (F0 m pc ls (.ref (a 1) :: rest)) := gG K hw 1 7 (ci := 5) (T := TX5) (N := 13) rfl rfl (by decide) iX5 hl rfl hd kk
theorem pD_1_7 (K : MC p s m args meth c cc own nL D tys) (hw : WD D A H0 (pdW a cA σ) H locs) {idx : Nat} {v : Int32} (hl : Cond.fieldLink own idx "PageDesk$Parser" "valueState" "I" ∈ TT) (hd : decode cc pc = .ok (.putfield idx, 3)) (kk : ∀ (H1 : Heap) (locs1 : List Loc), WD D A H0 (pdW a cA (upS σ 7 v)) H1 locs1 → W p l e R s m args below meth c H1 locs1 cells slots Q (F0 m (pc + 3) ls rest)) : W p l e R s m args below meth c H locs cells slots Q (F0 m pc ls (.int v :: .ref (a 1) :: rest)) := gP K hw 1 7 (ci := 5) (T := TX5) (N := 13) (ty := .int) rfl rfl (by decide) iX5 tyX5_ok nmX5 hl rfl rfl rfl rfl (Nat.le_of_ble_eq_true rfl) hd (fun H1 locs1 h => kk H1 locs1 h)
theorem gD_1_8 (K : MC p s m args meth c cc own nL D tys) (hw : WD D A H0 (pdW a cA σ) H locs) {idx : Nat} (hl : Cond.fieldLink own idx "PageDesk$Parser" "plus" "Z" ∈ TT) (hd : decode cc pc = .ok (.getfield idx, 3)) (kk : W p l e R s m args below meth c H locs cells slots Q (F0 m (pc + 3) ls (.int (σ.1 8) :: rest))) : W p l e R s m args below meth c H locs cells slots Q (F0 m pc ls (.ref (a 1) :: rest)) := gG K hw 1 8 (ci := 5) (T := TX5) (N := 13) rfl rfl (by decide) iX5 hl rfl hd kk
theorem pD_1_8 (K : MC p s m args meth c cc own nL D tys) (hw : WD D A H0 (pdW a cA σ) H locs) {idx : Nat} {v : Int32} (hz : narrow .boolean (.int v) = .int v) (hf : fits .boolean (.int v) = true) (hl : Cond.fieldLink own idx "PageDesk$Parser" "plus" "Z" ∈ TT) (hd : decode cc pc = .ok (.putfield idx, 3)) (kk : ∀ (H1 : Heap) (locs1 : List Loc), WD D A H0 (pdW a cA (upS σ 8 v)) H1 locs1 → W p l e R s m args below meth c H1 locs1 cells slots Q (F0 m (pc + 3) ls rest)) : W p l e R s m args below meth c H locs cells slots Q (F0 m pc ls (.int v :: .ref (a 1) :: rest)) := gP K hw 1 8 (ci := 5) (T := TX5) (N := 13) (ty := .boolean) rfl rfl (by decide) iX5 tyX5_ok nmX5 hl rfl rfl hz hf (Nat.le_of_ble_eq_true rfl) hd (fun H1 locs1 h => kk H1 locs1 h)
theorem gD_1_9 (K : MC p s m args meth c cc own nL D tys) (hw : WD D A H0 (pdW a cA σ) H locs) {idx : Nat} (hl : Cond.fieldLink own idx "PageDesk$Parser" "minus" "Z" ∈ TT) (hd : decode cc pc = .ok (.getfield idx, 3)) (kk : W p l e R s m args below meth c H locs cells slots Q (F0 m (pc + 3) ls (.int (σ.1 9) :: rest))) : W p l e R s m args below meth c H locs cells slots Q (F0 m pc ls (.ref (a 1) :: rest)) := gG K hw 1 9 (ci := 5) (T := TX5) (N := 13) rfl rfl (by decide) iX5 hl rfl hd kk
theorem pD_1_9 (K : MC p s m args meth c cc own nL D tys) (hw : WD D A H0 (pdW a cA σ) H locs) {idx : Nat} {v : Int32} (hz : narrow .boolean (.int v) = .int v) (hf : fits .boolean (.int v) = true) (hl : Cond.fieldLink own idx "PageDesk$Parser" "minus" "Z" ∈ TT) (hd : decode cc pc = .ok (.putfield idx, 3)) (kk : ∀ (H1 : Heap) (locs1 : List Loc), WD D A H0 (pdW a cA (upS σ 9 v)) H1 locs1 → W p l e R s m args below meth c H1 locs1 cells slots Q (F0 m (pc + 3) ls rest)) : W p l e R s m args below meth c H locs cells slots Q (F0 m pc ls (.int v :: .ref (a 1) :: rest)) := gP K hw 1 9 (ci := 5) (T := TX5) (N := 13) (ty := .boolean) rfl rfl (by decide) iX5 tyX5_ok nmX5 hl rfl rfl hz hf (Nat.le_of_ble_eq_true rfl) hd (fun H1 locs1 h => kk H1 locs1 h)
theorem gD_1_10 (K : MC p s m args meth c cc own nL D tys) (hw : WD D A H0 (pdW a cA σ) H locs) {idx : Nat} (hl : Cond.fieldLink own idx "PageDesk$Parser" "whole" "I" ∈ TT) (hd : decode cc pc = .ok (.getfield idx, 3)) (kk : W p l e R s m args below meth c H locs cells slots Q (F0 m (pc + 3) ls (.int (σ.1 10) :: rest))) : W p l e R s m args below meth c H locs cells slots Q (F0 m pc ls (.ref (a 1) :: rest)) := gG K hw 1 10 (ci := 5) (T := TX5) (N := 13) rfl rfl (by decide) iX5 hl rfl hd kk
theorem pD_1_10 (K : MC p s m args meth c cc own nL D tys) (hw : WD D A H0 (pdW a cA σ) H locs) {idx : Nat} {v : Int32} (hl : Cond.fieldLink own idx "PageDesk$Parser" "whole" "I" ∈ TT) (hd : decode cc pc = .ok (.putfield idx, 3)) (kk : ∀ (H1 : Heap) (locs1 : List Loc), WD D A H0 (pdW a cA (upS σ 10 v)) H1 locs1 → W p l e R s m args below meth c H1 locs1 cells slots Q (F0 m (pc + 3) ls rest)) : W p l e R s m args below meth c H locs cells slots Q (F0 m pc ls (.int v :: .ref (a 1) :: rest)) := gP K hw 1 10 (ci := 5) (T := TX5) (N := 13) (ty := .int) rfl rfl (by decide) iX5 tyX5_ok nmX5 hl rfl rfl rfl rfl (Nat.le_of_ble_eq_true rfl) hd (fun H1 locs1 h => kk H1 locs1 h)
theorem gD_1_11 (K : MC p s m args meth c cc own nL D tys) (hw : WD D A H0 (pdW a cA σ) H locs) {idx : Nat} (hl : Cond.fieldLink own idx "PageDesk$Parser" "fraction" "I" ∈ TT) (hd : decode cc pc = .ok (.getfield idx, 3)) (kk : W p l e R s m args below meth c H locs cells slots Q (F0 m (pc + 3) ls (.int (σ.1 11) :: rest))) : W p l e R s m args below meth c H locs cells slots Q (F0 m pc ls (.ref (a 1) :: rest)) := gG K hw 1 11 (ci := 5) (T := TX5) (N := 13) rfl rfl (by decide) iX5 hl rfl hd kk
theorem pD_1_11 (K : MC p s m args meth c cc own nL D tys) (hw : WD D A H0 (pdW a cA σ) H locs) {idx : Nat} {v : Int32} (hl : Cond.fieldLink own idx "PageDesk$Parser" "fraction" "I" ∈ TT) (hd : decode cc pc = .ok (.putfield idx, 3)) (kk : ∀ (H1 : Heap) (locs1 : List Loc), WD D A H0 (pdW a cA (upS σ 11 v)) H1 locs1 → W p l e R s m args below meth c H1 locs1 cells slots Q (F0 m (pc + 3) ls rest)) : W p l e R s m args below meth c H locs cells slots Q (F0 m pc ls (.int v :: .ref (a 1) :: rest)) := gP K hw 1 11 (ci := 5) (T := TX5) (N := 13) (ty := .int) rfl rfl (by decide) iX5 tyX5_ok nmX5 hl rfl rfl rfl rfl (Nat.le_of_ble_eq_true rfl) hd (fun H1 locs1 h => kk H1 locs1 h)
theorem gD_1_12 (K : MC p s m args meth c cc own nL D tys) (hw : WD D A H0 (pdW a cA σ) H locs) {idx : Nat} (hl : Cond.fieldLink own idx "PageDesk$Parser" "nextDigitWorth" "I" ∈ TT) (hd : decode cc pc = .ok (.getfield idx, 3)) (kk : W p l e R s m args below meth c H locs cells slots Q (F0 m (pc + 3) ls (.int (σ.1 12) :: rest))) : W p l e R s m args below meth c H locs cells slots Q (F0 m pc ls (.ref (a 1) :: rest)) := gG K hw 1 12 (ci := 5) (T := TX5) (N := 13) rfl rfl (by decide) iX5 hl rfl hd kk
theorem pD_1_12 (K : MC p s m args meth c cc own nL D tys) (hw : WD D A H0 (pdW a cA σ) H locs) {idx : Nat} {v : Int32} (hl : Cond.fieldLink own idx "PageDesk$Parser" "nextDigitWorth" "I" ∈ TT) (hd : decode cc pc = .ok (.putfield idx, 3)) (kk : ∀ (H1 : Heap) (locs1 : List Loc), WD D A H0 (pdW a cA (upS σ 12 v)) H1 locs1 → W p l e R s m args below meth c H1 locs1 cells slots Q (F0 m (pc + 3) ls rest)) : W p l e R s m args below meth c H locs cells slots Q (F0 m pc ls (.int v :: .ref (a 1) :: rest)) := gP K hw 1 12 (ci := 5) (T := TX5) (N := 13) (ty := .int) rfl rfl (by decide) iX5 tyX5_ok nmX5 hl rfl rfl rfl rfl (Nat.le_of_ble_eq_true rfl) hd (fun H1 locs1 h => kk H1 locs1 h)
theorem gD_2_0 (K : MC p s m args meth c cc own nL D tys) (hw : WD D A H0 (pdW a cA σ) H locs) {idx : Nat} (hl : Cond.fieldLink own idx "PageDesk$Paper" "size" "I" ∈ TT) (hd : decode cc pc = .ok (.getfield idx, 3)) (kk : W p l e R s m args below meth c H locs cells slots Q (F0 m (pc + 3) ls (.int (σ.1 13) :: rest))) : W p l e R s m args below meth c H locs cells slots Q (F0 m pc ls (.ref (a 2) :: rest)) := gG K hw 2 0 (ci := 4) (T := TX4) (N := 5) rfl rfl (by decide) iX4 hl rfl hd kk
theorem pD_2_0 (K : MC p s m args meth c cc own nL D tys) (hw : WD D A H0 (pdW a cA σ) H locs) {idx : Nat} {v : Int32} (hl : Cond.fieldLink own idx "PageDesk$Paper" "size" "I" ∈ TT) (hd : decode cc pc = .ok (.putfield idx, 3)) (kk : ∀ (H1 : Heap) (locs1 : List Loc), WD D A H0 (pdW a cA (upS σ 13 v)) H1 locs1 → W p l e R s m args below meth c H1 locs1 cells slots Q (F0 m (pc + 3) ls rest)) : W p l e R s m args below meth c H locs cells slots Q (F0 m pc ls (.int v :: .ref (a 2) :: rest)) := gP K hw 2 0 (ci := 4) (T := TX4) (N := 5) (ty := .int) rfl rfl (by decide) iX4 tyX4_ok nmX4 hl rfl rfl rfl rfl (Nat.le_of_ble_eq_true rfl) hd (fun H1 locs1 h => kk H1 locs1 h)
theorem gD_2_1 (K : MC p s m args meth c cc own nL D tys) (hw : WD D A H0 (pdW a cA σ) H locs) {idx : Nat} (hl : Cond.fieldLink own idx "PageDesk$Paper" "orientation" "I" ∈ TT) (hd : decode cc pc = .ok (.getfield idx, 3)) (kk : W p l e R s m args below meth c H locs cells slots Q (F0 m (pc + 3) ls (.int (σ.1 14) :: rest))) : W p l e R s m args below meth c H locs cells slots Q (F0 m pc ls (.ref (a 2) :: rest)) := gG K hw 2 1 (ci := 4) (T := TX4) (N := 5) rfl rfl (by decide) iX4 hl rfl hd kk
theorem pD_2_1 (K : MC p s m args meth c cc own nL D tys) (hw : WD D A H0 (pdW a cA σ) H locs) {idx : Nat} {v : Int32} (hl : Cond.fieldLink own idx "PageDesk$Paper" "orientation" "I" ∈ TT) (hd : decode cc pc = .ok (.putfield idx, 3)) (kk : ∀ (H1 : Heap) (locs1 : List Loc), WD D A H0 (pdW a cA (upS σ 14 v)) H1 locs1 → W p l e R s m args below meth c H1 locs1 cells slots Q (F0 m (pc + 3) ls rest)) : W p l e R s m args below meth c H locs cells slots Q (F0 m pc ls (.int v :: .ref (a 2) :: rest)) := gP K hw 2 1 (ci := 4) (T := TX4) (N := 5) (ty := .int) rfl rfl (by decide) iX4 tyX4_ok nmX4 hl rfl rfl rfl rfl (Nat.le_of_ble_eq_true rfl) hd (fun H1 locs1 h => kk H1 locs1 h)
theorem gD_2_2 (K : MC p s m args meth c cc own nL D tys) (hw : WD D A H0 (pdW a cA σ) H locs) {idx : Nat} (hl : Cond.fieldLink own idx "PageDesk$Paper" "copies" "I" ∈ TT) (hd : decode cc pc = .ok (.getfield idx, 3)) (kk : W p l e R s m args below meth c H locs cells slots Q (F0 m (pc + 3) ls (.int (σ.1 15) :: rest))) : W p l e R s m args below meth c H locs cells slots Q (F0 m pc ls (.ref (a 2) :: rest)) := gG K hw 2 2 (ci := 4) (T := TX4) (N := 5) rfl rfl (by decide) iX4 hl rfl hd kk
theorem pD_2_2 (K : MC p s m args meth c cc own nL D tys) (hw : WD D A H0 (pdW a cA σ) H locs) {idx : Nat} {v : Int32} (hl : Cond.fieldLink own idx "PageDesk$Paper" "copies" "I" ∈ TT) (hd : decode cc pc = .ok (.putfield idx, 3)) (kk : ∀ (H1 : Heap) (locs1 : List Loc), WD D A H0 (pdW a cA (upS σ 15 v)) H1 locs1 → W p l e R s m args below meth c H1 locs1 cells slots Q (F0 m (pc + 3) ls rest)) : W p l e R s m args below meth c H locs cells slots Q (F0 m pc ls (.int v :: .ref (a 2) :: rest)) := gP K hw 2 2 (ci := 4) (T := TX4) (N := 5) (ty := .int) rfl rfl (by decide) iX4 tyX4_ok nmX4 hl rfl rfl rfl rfl (Nat.le_of_ble_eq_true rfl) hd (fun H1 locs1 h => kk H1 locs1 h)
theorem gD_2_3 (K : MC p s m args meth c cc own nL D tys) (hw : WD D A H0 (pdW a cA σ) H locs) {idx : Nat} (hl : Cond.fieldLink own idx "PageDesk$Paper" "width" "I" ∈ TT) (hd : decode cc pc = .ok (.getfield idx, 3)) (kk : W p l e R s m args below meth c H locs cells slots Q (F0 m (pc + 3) ls (.int (σ.1 16) :: rest))) : W p l e R s m args below meth c H locs cells slots Q (F0 m pc ls (.ref (a 2) :: rest)) := gG K hw 2 3 (ci := 4) (T := TX4) (N := 5) rfl rfl (by decide) iX4 hl rfl hd kk
theorem pD_2_3 (K : MC p s m args meth c cc own nL D tys) (hw : WD D A H0 (pdW a cA σ) H locs) {idx : Nat} {v : Int32} (hl : Cond.fieldLink own idx "PageDesk$Paper" "width" "I" ∈ TT) (hd : decode cc pc = .ok (.putfield idx, 3)) (kk : ∀ (H1 : Heap) (locs1 : List Loc), WD D A H0 (pdW a cA (upS σ 16 v)) H1 locs1 → W p l e R s m args below meth c H1 locs1 cells slots Q (F0 m (pc + 3) ls rest)) : W p l e R s m args below meth c H locs cells slots Q (F0 m pc ls (.int v :: .ref (a 2) :: rest)) := gP K hw 2 3 (ci := 4) (T := TX4) (N := 5) (ty := .int) rfl rfl (by decide) iX4 tyX4_ok nmX4 hl rfl rfl rfl rfl (Nat.le_of_ble_eq_true rfl) hd (fun H1 locs1 h => kk H1 locs1 h)
theorem gD_2_4 (K : MC p s m args meth c cc own nL D tys) (hw : WD D A H0 (pdW a cA σ) H locs) {idx : Nat} (hl : Cond.fieldLink own idx "PageDesk$Paper" "height" "I" ∈ TT) (hd : decode cc pc = .ok (.getfield idx, 3)) (kk : W p l e R s m args below meth c H locs cells slots Q (F0 m (pc + 3) ls (.int (σ.1 17) :: rest))) : W p l e R s m args below meth c H locs cells slots Q (F0 m pc ls (.ref (a 2) :: rest)) := gG K hw 2 4 (ci := 4) (T := TX4) (N := 5) rfl rfl (by decide) iX4 hl rfl hd kk
theorem pD_2_4 (K : MC p s m args meth c cc own nL D tys) (hw : WD D A H0 (pdW a cA σ) H locs) {idx : Nat} {v : Int32} (hl : Cond.fieldLink own idx "PageDesk$Paper" "height" "I" ∈ TT) (hd : decode cc pc = .ok (.putfield idx, 3)) (kk : ∀ (H1 : Heap) (locs1 : List Loc), WD D A H0 (pdW a cA (upS σ 17 v)) H1 locs1 → W p l e R s m args below meth c H1 locs1 cells slots Q (F0 m (pc + 3) ls rest)) : W p l e R s m args below meth c H locs cells slots Q (F0 m pc ls (.int v :: .ref (a 2) :: rest)) := gP K hw 2 4 (ci := 4) (T := TX4) (N := 5) (ty := .int) rfl rfl (by decide) iX4 tyX4_ok nmX4 hl rfl rfl rfl rfl (Nat.le_of_ble_eq_true rfl) hd (fun H1 locs1 h => kk H1 locs1 h)
theorem gD_3_0 (K : MC p s m args meth c cc own nL D tys) (hw : WD D A H0 (pdW a cA σ) H locs) {idx : Nat} (hl : Cond.fieldLink own idx "PageDesk$Layout" "top" "I" ∈ TT) (hd : decode cc pc = .ok (.getfield idx, 3)) (kk : W p l e R s m args below meth c H locs cells slots Q (F0 m (pc + 3) ls (.int (σ.1 18) :: rest))) : W p l e R s m args below meth c H locs cells slots Q (F0 m pc ls (.ref (a 3) :: rest)) := gG K hw 3 0 (ci := 1) (T := TX1) (N := 15) rfl rfl (by decide) iX1 hl rfl hd kk
theorem pD_3_0 (K : MC p s m args meth c cc own nL D tys) (hw : WD D A H0 (pdW a cA σ) H locs) {idx : Nat} {v : Int32} (hl : Cond.fieldLink own idx "PageDesk$Layout" "top" "I" ∈ TT) (hd : decode cc pc = .ok (.putfield idx, 3)) (kk : ∀ (H1 : Heap) (locs1 : List Loc), WD D A H0 (pdW a cA (upS σ 18 v)) H1 locs1 → W p l e R s m args below meth c H1 locs1 cells slots Q (F0 m (pc + 3) ls rest)) : W p l e R s m args below meth c H locs cells slots Q (F0 m pc ls (.int v :: .ref (a 3) :: rest)) := gP K hw 3 0 (ci := 1) (T := TX1) (N := 15) (ty := .int) rfl rfl (by decide) iX1 tyX1_ok nmX1 hl rfl rfl rfl rfl (Nat.le_of_ble_eq_true rfl) hd (fun H1 locs1 h => kk H1 locs1 h)
theorem gD_3_1 (K : MC p s m args meth c cc own nL D tys) (hw : WD D A H0 (pdW a cA σ) H locs) {idx : Nat} (hl : Cond.fieldLink own idx "PageDesk$Layout" "length" "I" ∈ TT) (hd : decode cc pc = .ok (.getfield idx, 3)) (kk : W p l e R s m args below meth c H locs cells slots Q (F0 m (pc + 3) ls (.int (σ.1 19) :: rest))) : W p l e R s m args below meth c H locs cells slots Q (F0 m pc ls (.ref (a 3) :: rest)) := gG K hw 3 1 (ci := 1) (T := TX1) (N := 15) rfl rfl (by decide) iX1 hl rfl hd kk
theorem pD_3_1 (K : MC p s m args meth c cc own nL D tys) (hw : WD D A H0 (pdW a cA σ) H locs) {idx : Nat} {v : Int32} (hl : Cond.fieldLink own idx "PageDesk$Layout" "length" "I" ∈ TT) (hd : decode cc pc = .ok (.putfield idx, 3)) (kk : ∀ (H1 : Heap) (locs1 : List Loc), WD D A H0 (pdW a cA (upS σ 19 v)) H1 locs1 → W p l e R s m args below meth c H1 locs1 cells slots Q (F0 m (pc + 3) ls rest)) : W p l e R s m args below meth c H locs cells slots Q (F0 m pc ls (.int v :: .ref (a 3) :: rest)) := gP K hw 3 1 (ci := 1) (T := TX1) (N := 15) (ty := .int) rfl rfl (by decide) iX1 tyX1_ok nmX1 hl rfl rfl rfl rfl (Nat.le_of_ble_eq_true rfl) hd (fun H1 locs1 h => kk H1 locs1 h)
theorem gD_3_2 (K : MC p s m args meth c cc own nL D tys) (hw : WD D A H0 (pdW a cA σ) H locs) {idx : Nat} (hl : Cond.fieldLink own idx "PageDesk$Layout" "left" "I" ∈ TT) (hd : decode cc pc = .ok (.getfield idx, 3)) (kk : W p l e R s m args below meth c H locs cells slots Q (F0 m (pc + 3) ls (.int (σ.1 20) :: rest))) : W p l e R s m args below meth c H locs cells slots Q (F0 m pc ls (.ref (a 3) :: rest)) := gG K hw 3 2 (ci := 1) (T := TX1) (N := 15) rfl rfl (by decide) iX1 hl rfl hd kk
theorem pD_3_2 (K : MC p s m args meth c cc own nL D tys) (hw : WD D A H0 (pdW a cA σ) H locs) {idx : Nat} {v : Int32} (hl : Cond.fieldLink own idx "PageDesk$Layout" "left" "I" ∈ TT) (hd : decode cc pc = .ok (.putfield idx, 3)) (kk : ∀ (H1 : Heap) (locs1 : List Loc), WD D A H0 (pdW a cA (upS σ 20 v)) H1 locs1 → W p l e R s m args below meth c H1 locs1 cells slots Q (F0 m (pc + 3) ls rest)) : W p l e R s m args below meth c H locs cells slots Q (F0 m pc ls (.int v :: .ref (a 3) :: rest)) := gP K hw 3 2 (ci := 1) (T := TX1) (N := 15) (ty := .int) rfl rfl (by decide) iX1 tyX1_ok nmX1 hl rfl rfl rfl rfl (Nat.le_of_ble_eq_true rfl) hd (fun H1 locs1 h => kk H1 locs1 h)
theorem gD_3_3 (K : MC p s m args meth c cc own nL D tys) (hw : WD D A H0 (pdW a cA σ) H locs) {idx : Nat} (hl : Cond.fieldLink own idx "PageDesk$Layout" "right" "I" ∈ TT) (hd : decode cc pc = .ok (.getfield idx, 3)) (kk : W p l e R s m args below meth c H locs cells slots Q (F0 m (pc + 3) ls (.int (σ.1 21) :: rest))) : W p l e R s m args below meth c H locs cells slots Q (F0 m pc ls (.ref (a 3) :: rest)) := gG K hw 3 3 (ci := 1) (T := TX1) (N := 15) rfl rfl (by decide) iX1 hl rfl hd kk
theorem pD_3_3 (K : MC p s m args meth c cc own nL D tys) (hw : WD D A H0 (pdW a cA σ) H locs) {idx : Nat} {v : Int32} (hl : Cond.fieldLink own idx "PageDesk$Layout" "right" "I" ∈ TT) (hd : decode cc pc = .ok (.putfield idx, 3)) (kk : ∀ (H1 : Heap) (locs1 : List Loc), WD D A H0 (pdW a cA (upS σ 21 v)) H1 locs1 → W p l e R s m args below meth c H1 locs1 cells slots Q (F0 m (pc + 3) ls rest)) : W p l e R s m args below meth c H locs cells slots Q (F0 m pc ls (.int v :: .ref (a 3) :: rest)) := gP K hw 3 3 (ci := 1) (T := TX1) (N := 15) (ty := .int) rfl rfl (by decide) iX1 tyX1_ok nmX1 hl rfl rfl rfl rfl (Nat.le_of_ble_eq_true rfl) hd (fun H1 locs1 h => kk H1 locs1 h)
theorem gD_3_4 (K : MC p s m args meth c cc own nL D tys) (hw : WD D A H0 (pdW a cA σ) H locs) {idx : Nat} (hl : Cond.fieldLink own idx "PageDesk$Layout" "stepAcross" "I" ∈ TT) (hd : decode cc pc = .ok (.getfield idx, 3)) (kk : W p l e R s m args below meth c H locs cells slots Q (F0 m (pc + 3) ls (.int (σ.1 22) :: rest))) : W p l e R s m args below meth c H locs cells slots Q (F0 m pc ls (.ref (a 3) :: rest)) := gG K hw 3 4 (ci := 1) (T := TX1) (N := 15) rfl rfl (by decide) iX1 hl rfl hd kk
theorem pD_3_4 (K : MC p s m args meth c cc own nL D tys) (hw : WD D A H0 (pdW a cA σ) H locs) {idx : Nat} {v : Int32} (hl : Cond.fieldLink own idx "PageDesk$Layout" "stepAcross" "I" ∈ TT) (hd : decode cc pc = .ok (.putfield idx, 3)) (kk : ∀ (H1 : Heap) (locs1 : List Loc), WD D A H0 (pdW a cA (upS σ 22 v)) H1 locs1 → W p l e R s m args below meth c H1 locs1 cells slots Q (F0 m (pc + 3) ls rest)) : W p l e R s m args below meth c H locs cells slots Q (F0 m pc ls (.int v :: .ref (a 3) :: rest)) := gP K hw 3 4 (ci := 1) (T := TX1) (N := 15) (ty := .int) rfl rfl (by decide) iX1 tyX1_ok nmX1 hl rfl rfl rfl rfl (Nat.le_of_ble_eq_true rfl) hd (fun H1 locs1 h => kk H1 locs1 h)
theorem gD_3_5 (K : MC p s m args meth c cc own nL D tys) (hw : WD D A H0 (pdW a cA σ) H locs) {idx : Nat} (hl : Cond.fieldLink own idx "PageDesk$Layout" "stepDown" "I" ∈ TT) (hd : decode cc pc = .ok (.getfield idx, 3)) (kk : W p l e R s m args below meth c H locs cells slots Q (F0 m (pc + 3) ls (.int (σ.1 23) :: rest))) : W p l e R s m args below meth c H locs cells slots Q (F0 m pc ls (.ref (a 3) :: rest)) := gG K hw 3 5 (ci := 1) (T := TX1) (N := 15) rfl rfl (by decide) iX1 hl rfl hd kk
theorem pD_3_5 (K : MC p s m args meth c cc own nL D tys) (hw : WD D A H0 (pdW a cA σ) H locs) {idx : Nat} {v : Int32} (hl : Cond.fieldLink own idx "PageDesk$Layout" "stepDown" "I" ∈ TT) (hd : decode cc pc = .ok (.putfield idx, 3)) (kk : ∀ (H1 : Heap) (locs1 : List Loc), WD D A H0 (pdW a cA (upS σ 23 v)) H1 locs1 → W p l e R s m args below meth c H1 locs1 cells slots Q (F0 m (pc + 3) ls rest)) : W p l e R s m args below meth c H locs cells slots Q (F0 m pc ls (.int v :: .ref (a 3) :: rest)) := gP K hw 3 5 (ci := 1) (T := TX1) (N := 15) (ty := .int) rfl rfl (by decide) iX1 tyX1_ok nmX1 hl rfl rfl rfl rfl (Nat.le_of_ble_eq_true rfl) hd (fun H1 locs1 h => kk H1 locs1 h)
theorem gD_3_6 (K : MC p s m args meth c cc own nL D tys) (hw : WD D A H0 (pdW a cA σ) H locs) {idx : Nat} (hl : Cond.fieldLink own idx "PageDesk$Layout" "x" "I" ∈ TT) (hd : decode cc pc = .ok (.getfield idx, 3)) (kk : W p l e R s m args below meth c H locs cells slots Q (F0 m (pc + 3) ls (.int (σ.1 24) :: rest))) : W p l e R s m args below meth c H locs cells slots Q (F0 m pc ls (.ref (a 3) :: rest)) := gG K hw 3 6 (ci := 1) (T := TX1) (N := 15) rfl rfl (by decide) iX1 hl rfl hd kk
theorem pD_3_6 (K : MC p s m args meth c cc own nL D tys) (hw : WD D A H0 (pdW a cA σ) H locs) {idx : Nat} {v : Int32} (hl : Cond.fieldLink own idx "PageDesk$Layout" "x" "I" ∈ TT) (hd : decode cc pc = .ok (.putfield idx, 3)) (kk : ∀ (H1 : Heap) (locs1 : List Loc), WD D A H0 (pdW a cA (upS σ 24 v)) H1 locs1 → W p l e R s m args below meth c H1 locs1 cells slots Q (F0 m (pc + 3) ls rest)) : W p l e R s m args below meth c H locs cells slots Q (F0 m pc ls (.int v :: .ref (a 3) :: rest)) := gP K hw 3 6 (ci := 1) (T := TX1) (N := 15) (ty := .int) rfl rfl (by decide) iX1 tyX1_ok nmX1 hl rfl rfl rfl rfl (Nat.le_of_ble_eq_true rfl) hd (fun H1 locs1 h => kk H1 locs1 h)
theorem gD_3_7 (K : MC p s m args meth c cc own nL D tys) (hw : WD D A H0 (pdW a cA σ) H locs) {idx : Nat} (hl : Cond.fieldLink own idx "PageDesk$Layout" "y" "I" ∈ TT) (hd : decode cc pc = .ok (.getfield idx, 3)) (kk : W p l e R s m args below meth c H locs cells slots Q (F0 m (pc + 3) ls (.int (σ.1 25) :: rest))) : W p l e R s m args below meth c H locs cells slots Q (F0 m pc ls (.ref (a 3) :: rest)) := gG K hw 3 7 (ci := 1) (T := TX1) (N := 15) rfl rfl (by decide) iX1 hl rfl hd kk
theorem pD_3_7 (K : MC p s m args meth c cc own nL D tys) (hw : WD D A H0 (pdW a cA σ) H locs) {idx : Nat} {v : Int32} (hl : Cond.fieldLink own idx "PageDesk$Layout" "y" "I" ∈ TT) (hd : decode cc pc = .ok (.putfield idx, 3)) (kk : ∀ (H1 : Heap) (locs1 : List Loc), WD D A H0 (pdW a cA (upS σ 25 v)) H1 locs1 → W p l e R s m args below meth c H1 locs1 cells slots Q (F0 m (pc + 3) ls rest)) : W p l e R s m args below meth c H locs cells slots Q (F0 m pc ls (.int v :: .ref (a 3) :: rest)) := gP K hw 3 7 (ci := 1) (T := TX1) (N := 15) (ty := .int) rfl rfl (by decide) iX1 tyX1_ok nmX1 hl rfl rfl rfl rfl (Nat.le_of_ble_eq_true rfl) hd (fun H1 locs1 h => kk H1 locs1 h)
theorem gD_3_8 (K : MC p s m args meth c cc own nL D tys) (hw : WD D A H0 (pdW a cA σ) H locs) {idx : Nat} (hl : Cond.fieldLink own idx "PageDesk$Layout" "wrap" "Z" ∈ TT) (hd : decode cc pc = .ok (.getfield idx, 3)) (kk : W p l e R s m args below meth c H locs cells slots Q (F0 m (pc + 3) ls (.int (σ.1 26) :: rest))) : W p l e R s m args below meth c H locs cells slots Q (F0 m pc ls (.ref (a 3) :: rest)) := gG K hw 3 8 (ci := 1) (T := TX1) (N := 15) rfl rfl (by decide) iX1 hl rfl hd kk
theorem pD_3_8 (K : MC p s m args meth c cc own nL D tys) (hw : WD D A H0 (pdW a cA σ) H locs) {idx : Nat} {v : Int32} (hz : narrow .boolean (.int v) = .int v) (hf : fits .boolean (.int v) = true) (hl : Cond.fieldLink own idx "PageDesk$Layout" "wrap" "Z" ∈ TT) (hd : decode cc pc = .ok (.putfield idx, 3)) (kk : ∀ (H1 : Heap) (locs1 : List Loc), WD D A H0 (pdW a cA (upS σ 26 v)) H1 locs1 → W p l e R s m args below meth c H1 locs1 cells slots Q (F0 m (pc + 3) ls rest)) : W p l e R s m args below meth c H locs cells slots Q (F0 m pc ls (.int v :: .ref (a 3) :: rest)) := gP K hw 3 8 (ci := 1) (T := TX1) (N := 15) (ty := .boolean) rfl rfl (by decide) iX1 tyX1_ok nmX1 hl rfl rfl hz hf (Nat.le_of_ble_eq_true rfl) hd (fun H1 locs1 h => kk H1 locs1 h)
theorem gD_3_9 (K : MC p s m args meth c cc own nL D tys) (hw : WD D A H0 (pdW a cA σ) H locs) {idx : Nat} (hl : Cond.fieldLink own idx "PageDesk$Layout" "skip" "Z" ∈ TT) (hd : decode cc pc = .ok (.getfield idx, 3)) (kk : W p l e R s m args below meth c H locs cells slots Q (F0 m (pc + 3) ls (.int (σ.1 27) :: rest))) : W p l e R s m args below meth c H locs cells slots Q (F0 m pc ls (.ref (a 3) :: rest)) := gG K hw 3 9 (ci := 1) (T := TX1) (N := 15) rfl rfl (by decide) iX1 hl rfl hd kk
theorem pD_3_9 (K : MC p s m args meth c cc own nL D tys) (hw : WD D A H0 (pdW a cA σ) H locs) {idx : Nat} {v : Int32} (hz : narrow .boolean (.int v) = .int v) (hf : fits .boolean (.int v) = true) (hl : Cond.fieldLink own idx "PageDesk$Layout" "skip" "Z" ∈ TT) (hd : decode cc pc = .ok (.putfield idx, 3)) (kk : ∀ (H1 : Heap) (locs1 : List Loc), WD D A H0 (pdW a cA (upS σ 27 v)) H1 locs1 → W p l e R s m args below meth c H1 locs1 cells slots Q (F0 m (pc + 3) ls rest)) : W p l e R s m args below meth c H locs cells slots Q (F0 m pc ls (.int v :: .ref (a 3) :: rest)) := gP K hw 3 9 (ci := 1) (T := TX1) (N := 15) (ty := .boolean) rfl rfl (by decide) iX1 tyX1_ok nmX1 hl rfl rfl hz hf (Nat.le_of_ble_eq_true rfl) hd (fun H1 locs1 h => kk H1 locs1 h)
theorem gD_3_10 (K : MC p s m args meth c cc own nL D tys) (hw : WD D A H0 (pdW a cA σ) H locs) {idx : Nat} (hl : Cond.fieldLink own idx "PageDesk$Layout" "lineEnd" "I" ∈ TT) (hd : decode cc pc = .ok (.getfield idx, 3)) (kk : W p l e R s m args below meth c H locs cells slots Q (F0 m (pc + 3) ls (.int (σ.1 28) :: rest))) : W p l e R s m args below meth c H locs cells slots Q (F0 m pc ls (.ref (a 3) :: rest)) := gG K hw 3 10 (ci := 1) (T := TX1) (N := 15) rfl rfl (by decide) iX1 hl rfl hd kk
theorem pD_3_10 (K : MC p s m args meth c cc own nL D tys) (hw : WD D A H0 (pdW a cA σ) H locs) {idx : Nat} {v : Int32} (hl : Cond.fieldLink own idx "PageDesk$Layout" "lineEnd" "I" ∈ TT) (hd : decode cc pc = .ok (.putfield idx, 3)) (kk : ∀ (H1 : Heap) (locs1 : List Loc), WD D A H0 (pdW a cA (upS σ 28 v)) H1 locs1 → W p l e R s m args below meth c H1 locs1 cells slots Q (F0 m (pc + 3) ls rest)) : W p l e R s m args below meth c H locs cells slots Q (F0 m pc ls (.int v :: .ref (a 3) :: rest)) := gP K hw 3 10 (ci := 1) (T := TX1) (N := 15) (ty := .int) rfl rfl (by decide) iX1 tyX1_ok nmX1 hl rfl rfl rfl rfl (Nat.le_of_ble_eq_true rfl) hd (fun H1 locs1 h => kk H1 locs1 h)
theorem gD_3_11 (K : MC p s m args meth c cc own nL D tys) (hw : WD D A H0 (pdW a cA σ) H locs) {idx : Nat} (hl : Cond.fieldLink own idx "PageDesk$Layout" "font" "I" ∈ TT) (hd : decode cc pc = .ok (.getfield idx, 3)) (kk : W p l e R s m args below meth c H locs cells slots Q (F0 m (pc + 3) ls (.int (σ.1 29) :: rest))) : W p l e R s m args below meth c H locs cells slots Q (F0 m pc ls (.ref (a 3) :: rest)) := gG K hw 3 11 (ci := 1) (T := TX1) (N := 15) rfl rfl (by decide) iX1 hl rfl hd kk
theorem pD_3_11 (K : MC p s m args meth c cc own nL D tys) (hw : WD D A H0 (pdW a cA σ) H locs) {idx : Nat} {v : Int32} (hl : Cond.fieldLink own idx "PageDesk$Layout" "font" "I" ∈ TT) (hd : decode cc pc = .ok (.putfield idx, 3)) (kk : ∀ (H1 : Heap) (locs1 : List Loc), WD D A H0 (pdW a cA (upS σ 29 v)) H1 locs1 → W p l e R s m args below meth c H1 locs1 cells slots Q (F0 m (pc + 3) ls rest)) : W p l e R s m args below meth c H locs cells slots Q (F0 m pc ls (.int v :: .ref (a 3) :: rest)) := gP K hw 3 11 (ci := 1) (T := TX1) (N := 15) (ty := .int) rfl rfl (by decide) iX1 tyX1_ok nmX1 hl rfl rfl rfl rfl (Nat.le_of_ble_eq_true rfl) hd (fun H1 locs1 h => kk H1 locs1 h)
theorem gD_3_12 (K : MC p s m args meth c cc own nL D tys) (hw : WD D A H0 (pdW a cA σ) H locs) {idx : Nat} (hl : Cond.fieldLink own idx "PageDesk$Layout" "depth" "I" ∈ TT) (hd : decode cc pc = .ok (.getfield idx, 3)) (kk : W p l e R s m args below meth c H locs cells slots Q (F0 m (pc + 3) ls (.int (σ.1 30) :: rest))) : W p l e R s m args below meth c H locs cells slots Q (F0 m pc ls (.ref (a 3) :: rest)) := gG K hw 3 12 (ci := 1) (T := TX1) (N := 15) rfl rfl (by decide) iX1 hl rfl hd kk
theorem pD_3_12 (K : MC p s m args meth c cc own nL D tys) (hw : WD D A H0 (pdW a cA σ) H locs) {idx : Nat} {v : Int32} (hl : Cond.fieldLink own idx "PageDesk$Layout" "depth" "I" ∈ TT) (hd : decode cc pc = .ok (.putfield idx, 3)) (kk : ∀ (H1 : Heap) (locs1 : List Loc), WD D A H0 (pdW a cA (upS σ 30 v)) H1 locs1 → W p l e R s m args below meth c H1 locs1 cells slots Q (F0 m (pc + 3) ls rest)) : W p l e R s m args below meth c H locs cells slots Q (F0 m pc ls (.int v :: .ref (a 3) :: rest)) := gP K hw 3 12 (ci := 1) (T := TX1) (N := 15) (ty := .int) rfl rfl (by decide) iX1 tyX1_ok nmX1 hl rfl rfl rfl rfl (Nat.le_of_ble_eq_true rfl) hd (fun H1 locs1 h => kk H1 locs1 h)
theorem gD_3_13 (K : MC p s m args meth c cc own nL D tys) (hw : WD D A H0 (pdW a cA σ) H locs) {idx : Nat} (hl : Cond.fieldLink own idx "PageDesk$Layout" "stackX" "[I" ∈ TT) (hd : decode cc pc = .ok (.getfield idx, 3)) (kk : W p l e R s m args below meth c H locs cells slots Q (F0 m (pc + 3) ls (.ref (a 8) :: rest))) : W p l e R s m args below meth c H locs cells slots Q (F0 m pc ls (.ref (a 3) :: rest)) := gG K hw 3 13 (ci := 1) (T := TX1) (N := 15) rfl rfl (by decide) iX1 hl rfl hd kk
theorem gD_3_14 (K : MC p s m args meth c cc own nL D tys) (hw : WD D A H0 (pdW a cA σ) H locs) {idx : Nat} (hl : Cond.fieldLink own idx "PageDesk$Layout" "stackY" "[I" ∈ TT) (hd : decode cc pc = .ok (.getfield idx, 3)) (kk : W p l e R s m args below meth c H locs cells slots Q (F0 m (pc + 3) ls (.ref (a 9) :: rest))) : W p l e R s m args below meth c H locs cells slots Q (F0 m pc ls (.ref (a 3) :: rest)) := gG K hw 3 14 (ci := 1) (T := TX1) (N := 15) rfl rfl (by decide) iX1 hl rfl hd kk
theorem gD_4_0 (K : MC p s m args meth c cc own nL D tys) (hw : WD D A H0 (pdW a cA σ) H locs) {idx : Nat} (hl : Cond.fieldLink own idx "PageDesk$Sheet" "glyphs" "[J" ∈ TT) (hd : decode cc pc = .ok (.getfield idx, 3)) (kk : W p l e R s m args below meth c H locs cells slots Q (F0 m (pc + 3) ls (.ref (a 13) :: rest))) : W p l e R s m args below meth c H locs cells slots Q (F0 m pc ls (.ref (a 4) :: rest)) := gG K hw 4 0 (ci := 6) (T := TX6) (N := 4) rfl rfl (by decide) iX6 hl rfl hd kk
theorem gD_4_1 (K : MC p s m args meth c cc own nL D tys) (hw : WD D A H0 (pdW a cA σ) H locs) {idx : Nat} (hl : Cond.fieldLink own idx "PageDesk$Sheet" "count" "I" ∈ TT) (hd : decode cc pc = .ok (.getfield idx, 3)) (kk : W p l e R s m args below meth c H locs cells slots Q (F0 m (pc + 3) ls (.int (σ.1 31) :: rest))) : W p l e R s m args below meth c H locs cells slots Q (F0 m pc ls (.ref (a 4) :: rest)) := gG K hw 4 1 (ci := 6) (T := TX6) (N := 4) rfl rfl (by decide) iX6 hl rfl hd kk
theorem pD_4_1 (K : MC p s m args meth c cc own nL D tys) (hw : WD D A H0 (pdW a cA σ) H locs) {idx : Nat} {v : Int32} (hl : Cond.fieldLink own idx "PageDesk$Sheet" "count" "I" ∈ TT) (hd : decode cc pc = .ok (.putfield idx, 3)) (kk : ∀ (H1 : Heap) (locs1 : List Loc), WD D A H0 (pdW a cA (upS σ 31 v)) H1 locs1 → W p l e R s m args below meth c H1 locs1 cells slots Q (F0 m (pc + 3) ls rest)) : W p l e R s m args below meth c H locs cells slots Q (F0 m pc ls (.int v :: .ref (a 4) :: rest)) := gP K hw 4 1 (ci := 6) (T := TX6) (N := 4) (ty := .int) rfl rfl (by decide) iX6 tyX6_ok nmX6 hl rfl rfl rfl rfl (Nat.le_of_ble_eq_true rfl) hd (fun H1 locs1 h => kk H1 locs1 h)
theorem gD_4_2 (K : MC p s m args meth c cc own nL D tys) (hw : WD D A H0 (pdW a cA σ) H locs) {idx : Nat} (hl : Cond.fieldLink own idx "PageDesk$Sheet" "came" "I" ∈ TT) (hd : decode cc pc = .ok (.getfield idx, 3)) (kk : W p l e R s m args below meth c H locs cells slots Q (F0 m (pc + 3) ls (.int (σ.1 32) :: rest))) : W p l e R s m args below meth c H locs cells slots Q (F0 m pc ls (.ref (a 4) :: rest)) := gG K hw 4 2 (ci := 6) (T := TX6) (N := 4) rfl rfl (by decide) iX6 hl rfl hd kk
theorem pD_4_2 (K : MC p s m args meth c cc own nL D tys) (hw : WD D A H0 (pdW a cA σ) H locs) {idx : Nat} {v : Int32} (hl : Cond.fieldLink own idx "PageDesk$Sheet" "came" "I" ∈ TT) (hd : decode cc pc = .ok (.putfield idx, 3)) (kk : ∀ (H1 : Heap) (locs1 : List Loc), WD D A H0 (pdW a cA (upS σ 32 v)) H1 locs1 → W p l e R s m args below meth c H1 locs1 cells slots Q (F0 m (pc + 3) ls rest)) : W p l e R s m args below meth c H locs cells slots Q (F0 m pc ls (.int v :: .ref (a 4) :: rest)) := gP K hw 4 2 (ci := 6) (T := TX6) (N := 4) (ty := .int) rfl rfl (by decide) iX6 tyX6_ok nmX6 hl rfl rfl rfl rfl (Nat.le_of_ble_eq_true rfl) hd (fun H1 locs1 h => kk H1 locs1 h)
theorem gD_4_3 (K : MC p s m args meth c cc own nL D tys) (hw : WD D A H0 (pdW a cA σ) H locs) {idx : Nat} (hl : Cond.fieldLink own idx "PageDesk$Sheet" "toldDue" "Z" ∈ TT) (hd : decode cc pc = .ok (.getfield idx, 3)) (kk : W p l e R s m args below meth c H locs cells slots Q (F0 m (pc + 3) ls (.int (σ.1 33) :: rest))) : W p l e R s m args below meth c H locs cells slots Q (F0 m pc ls (.ref (a 4) :: rest)) := gG K hw 4 3 (ci := 6) (T := TX6) (N := 4) rfl rfl (by decide) iX6 hl rfl hd kk
theorem pD_4_3 (K : MC p s m args meth c cc own nL D tys) (hw : WD D A H0 (pdW a cA σ) H locs) {idx : Nat} {v : Int32} (hz : narrow .boolean (.int v) = .int v) (hf : fits .boolean (.int v) = true) (hl : Cond.fieldLink own idx "PageDesk$Sheet" "toldDue" "Z" ∈ TT) (hd : decode cc pc = .ok (.putfield idx, 3)) (kk : ∀ (H1 : Heap) (locs1 : List Loc), WD D A H0 (pdW a cA (upS σ 33 v)) H1 locs1 → W p l e R s m args below meth c H1 locs1 cells slots Q (F0 m (pc + 3) ls rest)) : W p l e R s m args below meth c H locs cells slots Q (F0 m pc ls (.int v :: .ref (a 4) :: rest)) := gP K hw 4 3 (ci := 6) (T := TX6) (N := 4) (ty := .boolean) rfl rfl (by decide) iX6 tyX6_ok nmX6 hl rfl rfl hz hf (Nat.le_of_ble_eq_true rfl) hd (fun H1 locs1 h => kk H1 locs1 h)
theorem gD_5_0 (K : MC p s m args meth c cc own nL D tys) (hw : WD D A H0 (pdW a cA σ) H locs) {idx : Nat} (hl : Cond.fieldLink own idx "PageDesk$DonePages" "parts" "[I" ∈ TT) (hd : decode cc pc = .ok (.getfield idx, 3)) (kk : W p l e R s m args below meth c H locs cells slots Q (F0 m (pc + 3) ls (.ref (a 11) :: rest))) : W p l e R s m args below meth c H locs cells slots Q (F0 m pc ls (.ref (a 5) :: rest)) := gG K hw 5 0 (ci := 0) (T := TX0) (N := 2) rfl rfl (by decide) iX0 hl rfl hd kk
theorem gD_5_1 (K : MC p s m args meth c cc own nL D tys) (hw : WD D A H0 (pdW a cA σ) H locs) {idx : Nat} (hl : Cond.fieldLink own idx "PageDesk$DonePages" "count" "I" ∈ TT) (hd : decode cc pc = .ok (.getfield idx, 3)) (kk : W p l e R s m args below meth c H locs cells slots Q (F0 m (pc + 3) ls (.int (σ.1 34) :: rest))) : W p l e R s m args below meth c H locs cells slots Q (F0 m pc ls (.ref (a 5) :: rest)) := gG K hw 5 1 (ci := 0) (T := TX0) (N := 2) rfl rfl (by decide) iX0 hl rfl hd kk
theorem pD_5_1 (K : MC p s m args meth c cc own nL D tys) (hw : WD D A H0 (pdW a cA σ) H locs) {idx : Nat} {v : Int32} (hl : Cond.fieldLink own idx "PageDesk$DonePages" "count" "I" ∈ TT) (hd : decode cc pc = .ok (.putfield idx, 3)) (kk : ∀ (H1 : Heap) (locs1 : List Loc), WD D A H0 (pdW a cA (upS σ 34 v)) H1 locs1 → W p l e R s m args below meth c H1 locs1 cells slots Q (F0 m (pc + 3) ls rest)) : W p l e R s m args below meth c H locs cells slots Q (F0 m pc ls (.int v :: .ref (a 5) :: rest)) := gP K hw 5 1 (ci := 0) (T := TX0) (N := 2) (ty := .int) rfl rfl (by decide) iX0 tyX0_ok nmX0 hl rfl rfl rfl rfl (Nat.le_of_ble_eq_true rfl) hd (fun H1 locs1 h => kk H1 locs1 h)
theorem gD_6_0 (K : MC p s m args meth c cc own nL D tys) (hw : WD D A H0 (pdW a cA σ) H locs) {idx : Nat} (hl : Cond.fieldLink own idx "PageDesk$OtherQueue" "row" "[LPageDesk$Other;" ∈ TT) (hd : decode cc pc = .ok (.getfield idx, 3)) (kk : W p l e R s m args below meth c H locs cells slots Q (F0 m (pc + 3) ls (.ref (a 15) :: rest))) : W p l e R s m args below meth c H locs cells slots Q (F0 m pc ls (.ref (a 6) :: rest)) := gG K hw 6 0 (ci := 3) (T := TX3) (N := 7) rfl rfl (by decide) iX3 hl rfl hd kk
theorem gD_6_1 (K : MC p s m args meth c cc own nL D tys) (hw : WD D A H0 (pdW a cA σ) H locs) {idx : Nat} (hl : Cond.fieldLink own idx "PageDesk$OtherQueue" "store" "[B" ∈ TT) (hd : decode cc pc = .ok (.getfield idx, 3)) (kk : W p l e R s m args below meth c H locs cells slots Q (F0 m (pc + 3) ls (.ref (a 12) :: rest))) : W p l e R s m args below meth c H locs cells slots Q (F0 m pc ls (.ref (a 6) :: rest)) := gG K hw 6 1 (ci := 3) (T := TX3) (N := 7) rfl rfl (by decide) iX3 hl rfl hd kk
theorem gD_6_2 (K : MC p s m args meth c cc own nL D tys) (hw : WD D A H0 (pdW a cA σ) H locs) {idx : Nat} (hl : Cond.fieldLink own idx "PageDesk$OtherQueue" "count" "I" ∈ TT) (hd : decode cc pc = .ok (.getfield idx, 3)) (kk : W p l e R s m args below meth c H locs cells slots Q (F0 m (pc + 3) ls (.int (σ.1 35) :: rest))) : W p l e R s m args below meth c H locs cells slots Q (F0 m pc ls (.ref (a 6) :: rest)) := gG K hw 6 2 (ci := 3) (T := TX3) (N := 7) rfl rfl (by decide) iX3 hl rfl hd kk
theorem pD_6_2 (K : MC p s m args meth c cc own nL D tys) (hw : WD D A H0 (pdW a cA σ) H locs) {idx : Nat} {v : Int32} (hl : Cond.fieldLink own idx "PageDesk$OtherQueue" "count" "I" ∈ TT) (hd : decode cc pc = .ok (.putfield idx, 3)) (kk : ∀ (H1 : Heap) (locs1 : List Loc), WD D A H0 (pdW a cA (upS σ 35 v)) H1 locs1 → W p l e R s m args below meth c H1 locs1 cells slots Q (F0 m (pc + 3) ls rest)) : W p l e R s m args below meth c H locs cells slots Q (F0 m pc ls (.int v :: .ref (a 6) :: rest)) := gP K hw 6 2 (ci := 3) (T := TX3) (N := 7) (ty := .int) rfl rfl (by decide) iX3 tyX3_ok nmX3 hl rfl rfl rfl rfl (Nat.le_of_ble_eq_true rfl) hd (fun H1 locs1 h => kk H1 locs1 h)
theorem gD_6_3 (K : MC p s m args meth c cc own nL D tys) (hw : WD D A H0 (pdW a cA σ) H locs) {idx : Nat} (hl : Cond.fieldLink own idx "PageDesk$OtherQueue" "first" "I" ∈ TT) (hd : decode cc pc = .ok (.getfield idx, 3)) (kk : W p l e R s m args below meth c H locs cells slots Q (F0 m (pc + 3) ls (.int (σ.1 36) :: rest))) : W p l e R s m args below meth c H locs cells slots Q (F0 m pc ls (.ref (a 6) :: rest)) := gG K hw 6 3 (ci := 3) (T := TX3) (N := 7) rfl rfl (by decide) iX3 hl rfl hd kk
theorem pD_6_3 (K : MC p s m args meth c cc own nL D tys) (hw : WD D A H0 (pdW a cA σ) H locs) {idx : Nat} {v : Int32} (hl : Cond.fieldLink own idx "PageDesk$OtherQueue" "first" "I" ∈ TT) (hd : decode cc pc = .ok (.putfield idx, 3)) (kk : ∀ (H1 : Heap) (locs1 : List Loc), WD D A H0 (pdW a cA (upS σ 36 v)) H1 locs1 → W p l e R s m args below meth c H1 locs1 cells slots Q (F0 m (pc + 3) ls rest)) : W p l e R s m args below meth c H locs cells slots Q (F0 m pc ls (.int v :: .ref (a 6) :: rest)) := gP K hw 6 3 (ci := 3) (T := TX3) (N := 7) (ty := .int) rfl rfl (by decide) iX3 tyX3_ok nmX3 hl rfl rfl rfl rfl (Nat.le_of_ble_eq_true rfl) hd (fun H1 locs1 h => kk H1 locs1 h)
theorem gD_6_4 (K : MC p s m args meth c cc own nL D tys) (hw : WD D A H0 (pdW a cA σ) H locs) {idx : Nat} (hl : Cond.fieldLink own idx "PageDesk$OtherQueue" "storeStart" "I" ∈ TT) (hd : decode cc pc = .ok (.getfield idx, 3)) (kk : W p l e R s m args below meth c H locs cells slots Q (F0 m (pc + 3) ls (.int (σ.1 37) :: rest))) : W p l e R s m args below meth c H locs cells slots Q (F0 m pc ls (.ref (a 6) :: rest)) := gG K hw 6 4 (ci := 3) (T := TX3) (N := 7) rfl rfl (by decide) iX3 hl rfl hd kk
theorem pD_6_4 (K : MC p s m args meth c cc own nL D tys) (hw : WD D A H0 (pdW a cA σ) H locs) {idx : Nat} {v : Int32} (hl : Cond.fieldLink own idx "PageDesk$OtherQueue" "storeStart" "I" ∈ TT) (hd : decode cc pc = .ok (.putfield idx, 3)) (kk : ∀ (H1 : Heap) (locs1 : List Loc), WD D A H0 (pdW a cA (upS σ 37 v)) H1 locs1 → W p l e R s m args below meth c H1 locs1 cells slots Q (F0 m (pc + 3) ls rest)) : W p l e R s m args below meth c H locs cells slots Q (F0 m pc ls (.int v :: .ref (a 6) :: rest)) := gP K hw 6 4 (ci := 3) (T := TX3) (N := 7) (ty := .int) rfl rfl (by decide) iX3 tyX3_ok nmX3 hl rfl rfl rfl rfl (Nat.le_of_ble_eq_true rfl) hd (fun H1 locs1 h => kk H1 locs1 h)
theorem gD_6_5 (K : MC p s m args meth c cc own nL D tys) (hw : WD D A H0 (pdW a cA σ) H locs) {idx : Nat} (hl : Cond.fieldLink own idx "PageDesk$OtherQueue" "stored" "I" ∈ TT) (hd : decode cc pc = .ok (.getfield idx, 3)) (kk : W p l e R s m args below meth c H locs cells slots Q (F0 m (pc + 3) ls (.int (σ.1 38) :: rest))) : W p l e R s m args below meth c H locs cells slots Q (F0 m pc ls (.ref (a 6) :: rest)) := gG K hw 6 5 (ci := 3) (T := TX3) (N := 7) rfl rfl (by decide) iX3 hl rfl hd kk
theorem pD_6_5 (K : MC p s m args meth c cc own nL D tys) (hw : WD D A H0 (pdW a cA σ) H locs) {idx : Nat} {v : Int32} (hl : Cond.fieldLink own idx "PageDesk$OtherQueue" "stored" "I" ∈ TT) (hd : decode cc pc = .ok (.putfield idx, 3)) (kk : ∀ (H1 : Heap) (locs1 : List Loc), WD D A H0 (pdW a cA (upS σ 38 v)) H1 locs1 → W p l e R s m args below meth c H1 locs1 cells slots Q (F0 m (pc + 3) ls rest)) : W p l e R s m args below meth c H locs cells slots Q (F0 m pc ls (.int v :: .ref (a 6) :: rest)) := gP K hw 6 5 (ci := 3) (T := TX3) (N := 7) (ty := .int) rfl rfl (by decide) iX3 tyX3_ok nmX3 hl rfl rfl rfl rfl (Nat.le_of_ble_eq_true rfl) hd (fun H1 locs1 h => kk H1 locs1 h)
theorem gD_6_6 (K : MC p s m args meth c cc own nL D tys) (hw : WD D A H0 (pdW a cA σ) H locs) {idx : Nat} (hl : Cond.fieldLink own idx "PageDesk$OtherQueue" "latestIsLost" "Z" ∈ TT) (hd : decode cc pc = .ok (.getfield idx, 3)) (kk : W p l e R s m args below meth c H locs cells slots Q (F0 m (pc + 3) ls (.int (σ.1 39) :: rest))) : W p l e R s m args below meth c H locs cells slots Q (F0 m pc ls (.ref (a 6) :: rest)) := gG K hw 6 6 (ci := 3) (T := TX3) (N := 7) rfl rfl (by decide) iX3 hl rfl hd kk
theorem pD_6_6 (K : MC p s m args meth c cc own nL D tys) (hw : WD D A H0 (pdW a cA σ) H locs) {idx : Nat} {v : Int32} (hz : narrow .boolean (.int v) = .int v) (hf : fits .boolean (.int v) = true) (hl : Cond.fieldLink own idx "PageDesk$OtherQueue" "latestIsLost" "Z" ∈ TT) (hd : decode cc pc = .ok (.putfield idx, 3)) (kk : ∀ (H1 : Heap) (locs1 : List Loc), WD D A H0 (pdW a cA (upS σ 39 v)) H1 locs1 → W p l e R s m args below meth c H1 locs1 cells slots Q (F0 m (pc + 3) ls rest)) : W p l e R s m args below meth c H locs cells slots Q (F0 m pc ls (.int v :: .ref (a 6) :: rest)) := gP K hw 6 6 (ci := 3) (T := TX3) (N := 7) (ty := .boolean) rfl rfl (by decide) iX3 tyX3_ok nmX3 hl rfl rfl hz hf (Nat.le_of_ble_eq_true rfl) hd (fun H1 locs1 h => kk H1 locs1 h)
theorem gO_0 (K : MC p s m args meth c cc own nL D tys) (hw : WD D A H0 (pdW a cA σ) H locs) {idx j : Nat} (hj : j < 16) (hl : Cond.fieldLink own idx "PageDesk$Other" "family" "I" ∈ TT) (hd : decode cc pc = .ok (.getfield idx, 3)) (kk : W p l e R s m args below meth c H locs cells slots Q (F0 m (pc + 3) ls (.int (σ.2.1 12 j) :: rest))) : W p l e R s m args below meth c H locs cells slots Q (F0 m pc ls (.ref (a (25 + j)) :: rest)) := gG K hw (25 + j) 0 (ci := 2) (T := TX2) (N := 7) (pdW_o hj) rfl (by decide) iX2 hl rfl hd kk
theorem pO_0 (K : MC p s m args meth c cc own nL D tys) (hw : WD D A H0 (pdW a cA σ) H locs) {idx j : Nat} {v : Int32} (hj : j < 16) (hl : Cond.fieldLink own idx "PageDesk$Other" "family" "I" ∈ TT) (hd : decode cc pc = .ok (.putfield idx, 3)) (kk : ∀ (H1 : Heap) (locs1 : List Loc), WD D A H0 (pdW a cA (upA σ 12 j v)) H1 locs1 → W p l e R s m args below meth c H1 locs1 cells slots Q (F0 m (pc + 3) ls rest)) : W p l e R s m args below meth c H locs cells slots Q (F0 m pc ls (.int v :: .ref (a (25 + j)) :: rest)) := gP K hw (25 + j) 0 (ci := 2) (T := TX2) (N := 7) (ty := .int) (pdW_o hj) rfl (by decide) iX2 tyX2_ok nmX2 hl rfl rfl rfl rfl (by show 0 < 7; decide) hd (fun H1 locs1 h => kk H1 locs1 (pdW_os0 (a := a) (cA := cA) (σ := σ) hj ▸ h))
theorem gO_1 (K : MC p s m args meth c cc own nL D tys) (hw : WD D A H0 (pdW a cA σ) H locs) {idx j : Nat} (hj : j < 16) (hl : Cond.fieldLink own idx "PageDesk$Other" "group" "I" ∈ TT) (hd : decode cc pc = .ok (.getfield idx, 3)) (kk : W p l e R s m args below meth c H locs cells slots Q (F0 m (pc + 3) ls (.int (σ.2.1 13 j) :: rest))) : W p l e R s m args below meth c H locs cells slots Q (F0 m pc ls (.ref (a (25 + j)) :: rest)) := gG K hw (25 + j) 1 (ci := 2) (T := TX2) (N := 7) (pdW_o hj) rfl (by decide) iX2 hl rfl hd kk
theorem pO_1 (K : MC p s m args meth c cc own nL D tys) (hw : WD D A H0 (pdW a cA σ) H locs) {idx j : Nat} {v : Int32} (hj : j < 16) (hl : Cond.fieldLink own idx "PageDesk$Other" "group" "I" ∈ TT) (hd : decode cc pc = .ok (.putfield idx, 3)) (kk : ∀ (H1 : Heap) (locs1 : List Loc), WD D A H0 (pdW a cA (upA σ 13 j v)) H1 locs1 → W p l e R s m args below meth c H1 locs1 cells slots Q (F0 m (pc + 3) ls rest)) : W p l e R s m args below meth c H locs cells slots Q (F0 m pc ls (.int v :: .ref (a (25 + j)) :: rest)) := gP K hw (25 + j) 1 (ci := 2) (T := TX2) (N := 7) (ty := .int) (pdW_o hj) rfl (by decide) iX2 tyX2_ok nmX2 hl rfl rfl rfl rfl (by show 1 < 7; decide) hd (fun H1 locs1 h => kk H1 locs1 (pdW_os1 (a := a) (cA := cA) (σ := σ) hj ▸ h))
theorem gO_2 (K : MC p s m args meth c cc own nL D tys) (hw : WD D A H0 (pdW a cA σ) H locs) {idx j : Nat} (hj : j < 16) (hl : Cond.fieldLink own idx "PageDesk$Other" "value" "I" ∈ TT) (hd : decode cc pc = .ok (.getfield idx, 3)) (kk : W p l e R s m args below meth c H locs cells slots Q (F0 m (pc + 3) ls (.int (σ.2.1 14 j) :: rest))) : W p l e R s m args below meth c H locs cells slots Q (F0 m pc ls (.ref (a (25 + j)) :: rest)) := gG K hw (25 + j) 2 (ci := 2) (T := TX2) (N := 7) (pdW_o hj) rfl (by decide) iX2 hl rfl hd kk
theorem pO_2 (K : MC p s m args meth c cc own nL D tys) (hw : WD D A H0 (pdW a cA σ) H locs) {idx j : Nat} {v : Int32} (hj : j < 16) (hl : Cond.fieldLink own idx "PageDesk$Other" "value" "I" ∈ TT) (hd : decode cc pc = .ok (.putfield idx, 3)) (kk : ∀ (H1 : Heap) (locs1 : List Loc), WD D A H0 (pdW a cA (upA σ 14 j v)) H1 locs1 → W p l e R s m args below meth c H1 locs1 cells slots Q (F0 m (pc + 3) ls rest)) : W p l e R s m args below meth c H locs cells slots Q (F0 m pc ls (.int v :: .ref (a (25 + j)) :: rest)) := gP K hw (25 + j) 2 (ci := 2) (T := TX2) (N := 7) (ty := .int) (pdW_o hj) rfl (by decide) iX2 tyX2_ok nmX2 hl rfl rfl rfl rfl (by show 2 < 7; decide) hd (fun H1 locs1 h => kk H1 locs1 (pdW_os2 (a := a) (cA := cA) (σ := σ) hj ▸ h))
theorem gO_3 (K : MC p s m args meth c cc own nL D tys) (hw : WD D A H0 (pdW a cA σ) H locs) {idx j : Nat} (hj : j < 16) (hl : Cond.fieldLink own idx "PageDesk$Other" "end" "I" ∈ TT) (hd : decode cc pc = .ok (.getfield idx, 3)) (kk : W p l e R s m args below meth c H locs cells slots Q (F0 m (pc + 3) ls (.int (σ.2.1 15 j) :: rest))) : W p l e R s m args below meth c H locs cells slots Q (F0 m pc ls (.ref (a (25 + j)) :: rest)) := gG K hw (25 + j) 3 (ci := 2) (T := TX2) (N := 7) (pdW_o hj) rfl (by decide) iX2 hl rfl hd kk
theorem pO_3 (K : MC p s m args meth c cc own nL D tys) (hw : WD D A H0 (pdW a cA σ) H locs) {idx j : Nat} {v : Int32} (hj : j < 16) (hl : Cond.fieldLink own idx "PageDesk$Other" "end" "I" ∈ TT) (hd : decode cc pc = .ok (.putfield idx, 3)) (kk : ∀ (H1 : Heap) (locs1 : List Loc), WD D A H0 (pdW a cA (upA σ 15 j v)) H1 locs1 → W p l e R s m args below meth c H1 locs1 cells slots Q (F0 m (pc + 3) ls rest)) : W p l e R s m args below meth c H locs cells slots Q (F0 m pc ls (.int v :: .ref (a (25 + j)) :: rest)) := gP K hw (25 + j) 3 (ci := 2) (T := TX2) (N := 7) (ty := .int) (pdW_o hj) rfl (by decide) iX2 tyX2_ok nmX2 hl rfl rfl rfl rfl (by show 3 < 7; decide) hd (fun H1 locs1 h => kk H1 locs1 (pdW_os3 (a := a) (cA := cA) (σ := σ) hj ▸ h))
theorem gO_4 (K : MC p s m args meth c cc own nL D tys) (hw : WD D A H0 (pdW a cA σ) H locs) {idx j : Nat} (hj : j < 16) (hl : Cond.fieldLink own idx "PageDesk$Other" "signed" "Z" ∈ TT) (hd : decode cc pc = .ok (.getfield idx, 3)) (kk : W p l e R s m args below meth c H locs cells slots Q (F0 m (pc + 3) ls (.int (σ.2.1 16 j) :: rest))) : W p l e R s m args below meth c H locs cells slots Q (F0 m pc ls (.ref (a (25 + j)) :: rest)) := gG K hw (25 + j) 4 (ci := 2) (T := TX2) (N := 7) (pdW_o hj) rfl (by decide) iX2 hl rfl hd kk
theorem pO_4 (K : MC p s m args meth c cc own nL D tys) (hw : WD D A H0 (pdW a cA σ) H locs) {idx j : Nat} {v : Int32} (hj : j < 16) (hz : narrow .boolean (.int v) = .int v) (hf : fits .boolean (.int v) = true) (hl : Cond.fieldLink own idx "PageDesk$Other" "signed" "Z" ∈ TT) (hd : decode cc pc = .ok (.putfield idx, 3)) (kk : ∀ (H1 : Heap) (locs1 : List Loc), WD D A H0 (pdW a cA (upA σ 16 j v)) H1 locs1 → W p l e R s m args below meth c H1 locs1 cells slots Q (F0 m (pc + 3) ls rest)) : W p l e R s m args below meth c H locs cells slots Q (F0 m pc ls (.int v :: .ref (a (25 + j)) :: rest)) := gP K hw (25 + j) 4 (ci := 2) (T := TX2) (N := 7) (ty := .boolean) (pdW_o hj) rfl (by decide) iX2 tyX2_ok nmX2 hl rfl rfl hz hf (by show 4 < 7; decide) hd (fun H1 locs1 h => kk H1 locs1 (pdW_os4 (a := a) (cA := cA) (σ := σ) hj ▸ h))
theorem gO_5 (K : MC p s m args meth c cc own nL D tys) (hw : WD D A H0 (pdW a cA σ) H locs) {idx j : Nat} (hj : j < 16) (hl : Cond.fieldLink own idx "PageDesk$Other" "dataStored" "I" ∈ TT) (hd : decode cc pc = .ok (.getfield idx, 3)) (kk : W p l e R s m args below meth c H locs cells slots Q (F0 m (pc + 3) ls (.int (σ.2.1 17 j) :: rest))) : W p l e R s m args below meth c H locs cells slots Q (F0 m pc ls (.ref (a (25 + j)) :: rest)) := gG K hw (25 + j) 5 (ci := 2) (T := TX2) (N := 7) (pdW_o hj) rfl (by decide) iX2 hl rfl hd kk
theorem pO_5 (K : MC p s m args meth c cc own nL D tys) (hw : WD D A H0 (pdW a cA σ) H locs) {idx j : Nat} {v : Int32} (hj : j < 16) (hl : Cond.fieldLink own idx "PageDesk$Other" "dataStored" "I" ∈ TT) (hd : decode cc pc = .ok (.putfield idx, 3)) (kk : ∀ (H1 : Heap) (locs1 : List Loc), WD D A H0 (pdW a cA (upA σ 17 j v)) H1 locs1 → W p l e R s m args below meth c H1 locs1 cells slots Q (F0 m (pc + 3) ls rest)) : W p l e R s m args below meth c H locs cells slots Q (F0 m pc ls (.int v :: .ref (a (25 + j)) :: rest)) := gP K hw (25 + j) 5 (ci := 2) (T := TX2) (N := 7) (ty := .int) (pdW_o hj) rfl (by decide) iX2 tyX2_ok nmX2 hl rfl rfl rfl rfl (by show 5 < 7; decide) hd (fun H1 locs1 h => kk H1 locs1 (pdW_os5 (a := a) (cA := cA) (σ := σ) hj ▸ h))
theorem gO_6 (K : MC p s m args meth c cc own nL D tys) (hw : WD D A H0 (pdW a cA σ) H locs) {idx j : Nat} (hj : j < 16) (hl : Cond.fieldLink own idx "PageDesk$Other" "dataToCome" "I" ∈ TT) (hd : decode cc pc = .ok (.getfield idx, 3)) (kk : W p l e R s m args below meth c H locs cells slots Q (F0 m (pc + 3) ls (.int (σ.2.1 18 j) :: rest))) : W p l e R s m args below meth c H locs cells slots Q (F0 m pc ls (.ref (a (25 + j)) :: rest)) := gG K hw (25 + j) 6 (ci := 2) (T := TX2) (N := 7) (pdW_o hj) rfl (by decide) iX2 hl rfl hd kk
theorem pO_6 (K : MC p s m args meth c cc own nL D tys) (hw : WD D A H0 (pdW a cA σ) H locs) {idx j : Nat} {v : Int32} (hj : j < 16) (hl : Cond.fieldLink own idx "PageDesk$Other" "dataToCome" "I" ∈ TT) (hd : decode cc pc = .ok (.putfield idx, 3)) (kk : ∀ (H1 : Heap) (locs1 : List Loc), WD D A H0 (pdW a cA (upA σ 18 j v)) H1 locs1 → W p l e R s m args below meth c H1 locs1 cells slots Q (F0 m (pc + 3) ls rest)) : W p l e R s m args below meth c H locs cells slots Q (F0 m pc ls (.int v :: .ref (a (25 + j)) :: rest)) := gP K hw (25 + j) 6 (ci := 2) (T := TX2) (N := 7) (ty := .int) (pdW_o hj) rfl (by decide) iX2 tyX2_ok nmX2 hl rfl rfl rfl rfl (by show 6 < 7; decide) hd (fun H1 locs1 h => kk H1 locs1 (pdW_os6 (a := a) (cA := cA) (σ := σ) hj ▸ h))
theorem lD_7 (K : MC p s m args meth c cc own nL D (pdT cA)) (hw : WD D A H0 (pdW a cA σ) H locs) {i : Int32} {k : Nat} (hin : vp_in i 512) (hk : i.toNatClampNeg = k) (hd : decode cc pc = .ok (.iaload, 1)) (kk : W p l e R s m args below meth c H locs cells slots Q (F0 m (pc + 1) ls (.int (σ.2.1 0 k) :: rest))) : W p l e R s m args below meth c H locs cells slots Q (F0 m pc ls (.int i :: .ref (a 7) :: rest)) := gIl K hw 7 0 rfl rfl hin hd (by rw [hk]; exact kk)
theorem sD_7 (K : MC p s m args meth c cc own nL D (pdT cA)) (hw : WD D A H0 (pdW a cA σ) H locs) {i : Int32} {x : Int32} {k : Nat} (hin : vp_in i 512) (hk : i.toNatClampNeg = k) (hd : decode cc pc = .ok (.iastore, 1)) (kk : ∀ (H1 : Heap) (locs1 : List Loc), WD D A H0 (pdW a cA (upA σ 0 k x)) H1 locs1 → W p l e R s m args below meth c H1 locs1 cells slots Q (F0 m (pc + 1) ls rest)) : W p l e R s m args below meth c H locs cells slots Q (F0 m pc ls (.int x :: .int i :: .ref (a 7) :: rest)) := by
  subst hk
  exact gIs K hw 7 0 rfl rfl hin hd (fun H1 locs1 h => kk H1 locs1 h)
theorem lD_8 (K : MC p s m args meth c cc own nL D (pdT cA)) (hw : WD D A H0 (pdW a cA σ) H locs) {i : Int32} {k : Nat} (hin : vp_in i 20) (hk : i.toNatClampNeg = k) (hd : decode cc pc = .ok (.iaload, 1)) (kk : W p l e R s m args below meth c H locs cells slots Q (F0 m (pc + 1) ls (.int (σ.2.1 1 k) :: rest))) : W p l e R s m args below meth c H locs cells slots Q (F0 m pc ls (.int i :: .ref (a 8) :: rest)) := gIl K hw 8 1 rfl rfl hin hd (by rw [hk]; exact kk)
theorem sD_8 (K : MC p s m args meth c cc own nL D (pdT cA)) (hw : WD D A H0 (pdW a cA σ) H locs) {i : Int32} {x : Int32} {k : Nat} (hin : vp_in i 20) (hk : i.toNatClampNeg = k) (hd : decode cc pc = .ok (.iastore, 1)) (kk : ∀ (H1 : Heap) (locs1 : List Loc), WD D A H0 (pdW a cA (upA σ 1 k x)) H1 locs1 → W p l e R s m args below meth c H1 locs1 cells slots Q (F0 m (pc + 1) ls rest)) : W p l e R s m args below meth c H locs cells slots Q (F0 m pc ls (.int x :: .int i :: .ref (a 8) :: rest)) := by
  subst hk
  exact gIs K hw 8 1 rfl rfl hin hd (fun H1 locs1 h => kk H1 locs1 h)
theorem lD_9 (K : MC p s m args meth c cc own nL D (pdT cA)) (hw : WD D A H0 (pdW a cA σ) H locs) {i : Int32} {k : Nat} (hin : vp_in i 20) (hk : i.toNatClampNeg = k) (hd : decode cc pc = .ok (.iaload, 1)) (kk : W p l e R s m args below meth c H locs cells slots Q (F0 m (pc + 1) ls (.int (σ.2.1 2 k) :: rest))) : W p l e R s m args below meth c H locs cells slots Q (F0 m pc ls (.int i :: .ref (a 9) :: rest)) := gIl K hw 9 2 rfl rfl hin hd (by rw [hk]; exact kk)
theorem sD_9 (K : MC p s m args meth c cc own nL D (pdT cA)) (hw : WD D A H0 (pdW a cA σ) H locs) {i : Int32} {x : Int32} {k : Nat} (hin : vp_in i 20) (hk : i.toNatClampNeg = k) (hd : decode cc pc = .ok (.iastore, 1)) (kk : ∀ (H1 : Heap) (locs1 : List Loc), WD D A H0 (pdW a cA (upA σ 2 k x)) H1 locs1 → W p l e R s m args below meth c H1 locs1 cells slots Q (F0 m (pc + 1) ls rest)) : W p l e R s m args below meth c H locs cells slots Q (F0 m pc ls (.int x :: .int i :: .ref (a 9) :: rest)) := by
  subst hk
  exact gIs K hw 9 2 rfl rfl hin hd (fun H1 locs1 h => kk H1 locs1 h)
theorem lD_10 (K : MC p s m args meth c cc own nL D (pdT cA)) (hw : WD D A H0 (pdW a cA σ) H locs) {i : Int32} {k : Nat} (hin : vp_in i 3) (hk : i.toNatClampNeg = k) (hd : decode cc pc = .ok (.baload, 1)) (kk : W p l e R s m args below meth c H locs cells slots Q (F0 m (pc + 1) ls (.int (σ.2.1 3 k) :: rest))) : W p l e R s m args below meth c H locs cells slots Q (F0 m pc ls (.int i :: .ref (a 10) :: rest)) := gZl K hw 10 3 rfl rfl hin hd (by rw [hk]; exact kk)
theorem sD_10 (K : MC p s m args meth c cc own nL D (pdT cA)) (hw : WD D A H0 (pdW a cA σ) H locs) {i : Int32} {x : Int32} {k : Nat} (hin : vp_in i 3) (hk : i.toNatClampNeg = k) (hd : decode cc pc = .ok (.bastore, 1)) (kk : ∀ (H1 : Heap) (locs1 : List Loc), WD D A H0 (pdW a cA (upA σ 3 k (vp_nar .boolean x))) H1 locs1 → W p l e R s m args below meth c H1 locs1 cells slots Q (F0 m (pc + 1) ls rest)) : W p l e R s m args below meth c H locs cells slots Q (F0 m pc ls (.int x :: .int i :: .ref (a 10) :: rest)) := by
  subst hk
  exact gZs K hw 10 3 rfl rfl hin hd (fun H1 locs1 h => kk H1 locs1 h)
theorem lD_11 (K : MC p s m args meth c cc own nL D (pdT cA)) (hw : WD D A H0 (pdW a cA σ) H locs) {i : Int32} {k : Nat} (hin : vp_in i 160) (hk : i.toNatClampNeg = k) (hd : decode cc pc = .ok (.iaload, 1)) (kk : W p l e R s m args below meth c H locs cells slots Q (F0 m (pc + 1) ls (.int (σ.2.1 4 k) :: rest))) : W p l e R s m args below meth c H locs cells slots Q (F0 m pc ls (.int i :: .ref (a 11) :: rest)) := gIl K hw 11 4 rfl rfl hin hd (by rw [hk]; exact kk)
theorem sD_11 (K : MC p s m args meth c cc own nL D (pdT cA)) (hw : WD D A H0 (pdW a cA σ) H locs) {i : Int32} {x : Int32} {k : Nat} (hin : vp_in i 160) (hk : i.toNatClampNeg = k) (hd : decode cc pc = .ok (.iastore, 1)) (kk : ∀ (H1 : Heap) (locs1 : List Loc), WD D A H0 (pdW a cA (upA σ 4 k x)) H1 locs1 → W p l e R s m args below meth c H1 locs1 cells slots Q (F0 m (pc + 1) ls rest)) : W p l e R s m args below meth c H locs cells slots Q (F0 m pc ls (.int x :: .int i :: .ref (a 11) :: rest)) := by
  subst hk
  exact gIs K hw 11 4 rfl rfl hin hd (fun H1 locs1 h => kk H1 locs1 h)
theorem lD_12 (K : MC p s m args meth c cc own nL D (pdT cA)) (hw : WD D A H0 (pdW a cA σ) H locs) {i : Int32} {k : Nat} (hin : vp_in i 4096) (hk : i.toNatClampNeg = k) (hd : decode cc pc = .ok (.baload, 1)) (kk : W p l e R s m args below meth c H locs cells slots Q (F0 m (pc + 1) ls (.int (σ.2.1 5 k) :: rest))) : W p l e R s m args below meth c H locs cells slots Q (F0 m pc ls (.int i :: .ref (a 12) :: rest)) := gBl K hw 12 5 rfl rfl hin hd (by rw [hk]; exact kk)
theorem sD_12 (K : MC p s m args meth c cc own nL D (pdT cA)) (hw : WD D A H0 (pdW a cA σ) H locs) {i : Int32} {x : Int32} {k : Nat} (hin : vp_in i 4096) (hk : i.toNatClampNeg = k) (hd : decode cc pc = .ok (.bastore, 1)) (kk : ∀ (H1 : Heap) (locs1 : List Loc), WD D A H0 (pdW a cA (upA σ 5 k (vp_nar .byte x))) H1 locs1 → W p l e R s m args below meth c H1 locs1 cells slots Q (F0 m (pc + 1) ls rest)) : W p l e R s m args below meth c H locs cells slots Q (F0 m pc ls (.int x :: .int i :: .ref (a 12) :: rest)) := by
  subst hk
  exact gBs K hw 12 5 rfl rfl hin hd (fun H1 locs1 h => kk H1 locs1 h)
theorem lD_13 (K : MC p s m args meth c cc own nL D (pdT cA)) (hw : WD D A H0 (pdW a cA σ) H locs) {i : Int32} {k : Nat} (hin : vp_in i 6000) (hk : i.toNatClampNeg = k) (hd : decode cc pc = .ok (.laload, 1)) (kk : W p l e R s m args below meth c H locs cells slots Q (F0 m (pc + 1) ls (.long (σ.2.2 k) :: rest))) : W p l e R s m args below meth c H locs cells slots Q (F0 m pc ls (.int i :: .ref (a 13) :: rest)) := gJl K hw 13 6 rfl rfl hin hd (by rw [hk]; exact kk)
theorem sD_13 (K : MC p s m args meth c cc own nL D (pdT cA)) (hw : WD D A H0 (pdW a cA σ) H locs) {i : Int32} {x : Int64} {k : Nat} (hin : vp_in i 6000) (hk : i.toNatClampNeg = k) (hd : decode cc pc = .ok (.lastore, 1)) (kk : ∀ (H1 : Heap) (locs1 : List Loc), WD D A H0 (pdW a cA (upG σ k x)) H1 locs1 → W p l e R s m args below meth c H1 locs1 cells slots Q (F0 m (pc + 1) ls rest)) : W p l e R s m args below meth c H locs cells slots Q (F0 m pc ls (.long x :: .int i :: .ref (a 13) :: rest)) := by
  subst hk
  exact gJs K hw 13 6 rfl rfl hin hd (fun H1 locs1 h => kk H1 locs1 h)
theorem lD_14 (K : MC p s m args meth c cc own nL D (pdT cA)) (hw : WD D A H0 (pdW a cA σ) H locs) {i : Int32} (hin : vp_in i 3) (hd : decode cc pc = .ok (.aaload, 1)) (kk : W p l e R s m args below meth c H locs cells slots Q (F0 m (pc + 1) ls (.ref (a (16 + i.toNatClampNeg)) :: rest))) : W p l e R s m args below meth c H locs cells slots Q (F0 m pc ls (.int i :: .ref (a 14) :: rest)) := gAl K hw 14 7 rfl rfl hin rfl hd kk
theorem lD_15 (K : MC p s m args meth c cc own nL D (pdT cA)) (hw : WD D A H0 (pdW a cA σ) H locs) {i : Int32} (hin : vp_in i 16) (hd : decode cc pc = .ok (.aaload, 1)) (kk : W p l e R s m args below meth c H locs cells slots Q (F0 m (pc + 1) ls (.ref (a (25 + i.toNatClampNeg)) :: rest))) : W p l e R s m args below meth c H locs cells slots Q (F0 m pc ls (.int i :: .ref (a 15) :: rest)) := gAl K hw 15 8 rfl rfl hin rfl hd kk
theorem gM_0_0 (K : MC p s m args meth c cc own nL D tys) (hw : WD D A H0 (mdW a cA σ) H locs) {idx : Nat} (hl : Cond.fieldLink own idx "PageDeskModel" "thrown" "I" ∈ TT) (hd : decode cc pc = .ok (.getfield idx, 3)) (kk : W p l e R s m args below meth c H locs cells slots Q (F0 m (pc + 3) ls (.int (σ.1 0) :: rest))) : W p l e R s m args below meth c H locs cells slots Q (F0 m pc ls (.ref (a 0) :: rest)) := gG K hw 0 0 (ci := 8) (T := TX8) (N := 33) rfl rfl (by decide) iX8 hl rfl hd kk
theorem pM_0_0 (K : MC p s m args meth c cc own nL D tys) (hw : WD D A H0 (mdW a cA σ) H locs) {idx : Nat} {v : Int32} (hl : Cond.fieldLink own idx "PageDeskModel" "thrown" "I" ∈ TT) (hd : decode cc pc = .ok (.putfield idx, 3)) (kk : ∀ (H1 : Heap) (locs1 : List Loc), WD D A H0 (mdW a cA (upS σ 0 v)) H1 locs1 → W p l e R s m args below meth c H1 locs1 cells slots Q (F0 m (pc + 3) ls rest)) : W p l e R s m args below meth c H locs cells slots Q (F0 m pc ls (.int v :: .ref (a 0) :: rest)) := gP K hw 0 0 (ci := 8) (T := TX8) (N := 33) (ty := .int) rfl rfl (by decide) iX8 tyX8_ok nmX8 hl rfl rfl rfl rfl (Nat.le_of_ble_eq_true rfl) hd (fun H1 locs1 h => kk H1 locs1 h)
theorem gM_0_1 (K : MC p s m args meth c cc own nL D tys) (hw : WD D A H0 (mdW a cA σ) H locs) {idx : Nat} (hl : Cond.fieldLink own idx "PageDeskModel" "state" "[I" ∈ TT) (hd : decode cc pc = .ok (.getfield idx, 3)) (kk : W p l e R s m args below meth c H locs cells slots Q (F0 m (pc + 3) ls (.ref (a 1) :: rest))) : W p l e R s m args below meth c H locs cells slots Q (F0 m pc ls (.ref (a 0) :: rest)) := gG K hw 0 1 (ci := 8) (T := TX8) (N := 33) rfl rfl (by decide) iX8 hl rfl hd kk
theorem gM_0_2 (K : MC p s m args meth c cc own nL D tys) (hw : WD D A H0 (mdW a cA σ) H locs) {idx : Nat} (hl : Cond.fieldLink own idx "PageDeskModel" "kept" "[I" ∈ TT) (hd : decode cc pc = .ok (.getfield idx, 3)) (kk : W p l e R s m args below meth c H locs cells slots Q (F0 m (pc + 3) ls (.ref (a 2) :: rest))) : W p l e R s m args below meth c H locs cells slots Q (F0 m pc ls (.ref (a 0) :: rest)) := gG K hw 0 2 (ci := 8) (T := TX8) (N := 33) rfl rfl (by decide) iX8 hl rfl hd kk
theorem gM_0_3 (K : MC p s m args meth c cc own nL D tys) (hw : WD D A H0 (mdW a cA σ) H locs) {idx : Nat} (hl : Cond.fieldLink own idx "PageDeskModel" "isKept" "[Z" ∈ TT) (hd : decode cc pc = .ok (.getfield idx, 3)) (kk : W p l e R s m args below meth c H locs cells slots Q (F0 m (pc + 3) ls (.ref (a 3) :: rest))) : W p l e R s m args below meth c H locs cells slots Q (F0 m pc ls (.ref (a 0) :: rest)) := gG K hw 0 3 (ci := 8) (T := TX8) (N := 33) rfl rfl (by decide) iX8 hl rfl hd kk
theorem gM_0_4 (K : MC p s m args meth c cc own nL D tys) (hw : WD D A H0 (mdW a cA σ) H locs) {idx : Nat} (hl : Cond.fieldLink own idx "PageDeskModel" "size" "I" ∈ TT) (hd : decode cc pc = .ok (.getfield idx, 3)) (kk : W p l e R s m args below meth c H locs cells slots Q (F0 m (pc + 3) ls (.int (σ.1 4) :: rest))) : W p l e R s m args below meth c H locs cells slots Q (F0 m pc ls (.ref (a 0) :: rest)) := gG K hw 0 4 (ci := 8) (T := TX8) (N := 33) rfl rfl (by decide) iX8 hl rfl hd kk
theorem pM_0_4 (K : MC p s m args meth c cc own nL D tys) (hw : WD D A H0 (mdW a cA σ) H locs) {idx : Nat} {v : Int32} (hl : Cond.fieldLink own idx "PageDeskModel" "size" "I" ∈ TT) (hd : decode cc pc = .ok (.putfield idx, 3)) (kk : ∀ (H1 : Heap) (locs1 : List Loc), WD D A H0 (mdW a cA (upS σ 4 v)) H1 locs1 → W p l e R s m args below meth c H1 locs1 cells slots Q (F0 m (pc + 3) ls rest)) : W p l e R s m args below meth c H locs cells slots Q (F0 m pc ls (.int v :: .ref (a 0) :: rest)) := gP K hw 0 4 (ci := 8) (T := TX8) (N := 33) (ty := .int) rfl rfl (by decide) iX8 tyX8_ok nmX8 hl rfl rfl rfl rfl (Nat.le_of_ble_eq_true rfl) hd (fun H1 locs1 h => kk H1 locs1 h)
theorem gM_0_5 (K : MC p s m args meth c cc own nL D tys) (hw : WD D A H0 (mdW a cA σ) H locs) {idx : Nat} (hl : Cond.fieldLink own idx "PageDeskModel" "orientation" "I" ∈ TT) (hd : decode cc pc = .ok (.getfield idx, 3)) (kk : W p l e R s m args below meth c H locs cells slots Q (F0 m (pc + 3) ls (.int (σ.1 5) :: rest))) : W p l e R s m args below meth c H locs cells slots Q (F0 m pc ls (.ref (a 0) :: rest)) := gG K hw 0 5 (ci := 8) (T := TX8) (N := 33) rfl rfl (by decide) iX8 hl rfl hd kk
theorem pM_0_5 (K : MC p s m args meth c cc own nL D tys) (hw : WD D A H0 (mdW a cA σ) H locs) {idx : Nat} {v : Int32} (hl : Cond.fieldLink own idx "PageDeskModel" "orientation" "I" ∈ TT) (hd : decode cc pc = .ok (.putfield idx, 3)) (kk : ∀ (H1 : Heap) (locs1 : List Loc), WD D A H0 (mdW a cA (upS σ 5 v)) H1 locs1 → W p l e R s m args below meth c H1 locs1 cells slots Q (F0 m (pc + 3) ls rest)) : W p l e R s m args below meth c H locs cells slots Q (F0 m pc ls (.int v :: .ref (a 0) :: rest)) := gP K hw 0 5 (ci := 8) (T := TX8) (N := 33) (ty := .int) rfl rfl (by decide) iX8 tyX8_ok nmX8 hl rfl rfl rfl rfl (Nat.le_of_ble_eq_true rfl) hd (fun H1 locs1 h => kk H1 locs1 h)
theorem gM_0_6 (K : MC p s m args meth c cc own nL D tys) (hw : WD D A H0 (mdW a cA σ) H locs) {idx : Nat} (hl : Cond.fieldLink own idx "PageDeskModel" "copies" "I" ∈ TT) (hd : decode cc pc = .ok (.getfield idx, 3)) (kk : W p l e R s m args below meth c H locs cells slots Q (F0 m (pc + 3) ls (.int (σ.1 6) :: rest))) : W p l e R s m args below meth c H locs cells slots Q (F0 m pc ls (.ref (a 0) :: rest)) := gG K hw 0 6 (ci := 8) (T := TX8) (N := 33) rfl rfl (by decide) iX8 hl rfl hd kk
theorem pM_0_6 (K : MC p s m args meth c cc own nL D tys) (hw : WD D A H0 (mdW a cA σ) H locs) {idx : Nat} {v : Int32} (hl : Cond.fieldLink own idx "PageDeskModel" "copies" "I" ∈ TT) (hd : decode cc pc = .ok (.putfield idx, 3)) (kk : ∀ (H1 : Heap) (locs1 : List Loc), WD D A H0 (mdW a cA (upS σ 6 v)) H1 locs1 → W p l e R s m args below meth c H1 locs1 cells slots Q (F0 m (pc + 3) ls rest)) : W p l e R s m args below meth c H locs cells slots Q (F0 m pc ls (.int v :: .ref (a 0) :: rest)) := gP K hw 0 6 (ci := 8) (T := TX8) (N := 33) (ty := .int) rfl rfl (by decide) iX8 tyX8_ok nmX8 hl rfl rfl rfl rfl (Nat.le_of_ble_eq_true rfl) hd (fun H1 locs1 h => kk H1 locs1 h)
theorem gM_0_7 (K : MC p s m args meth c cc own nL D tys) (hw : WD D A H0 (mdW a cA σ) H locs) {idx : Nat} (hl : Cond.fieldLink own idx "PageDeskModel" "width" "I" ∈ TT) (hd : decode cc pc = .ok (.getfield idx, 3)) (kk : W p l e R s m args below meth c H locs cells slots Q (F0 m (pc + 3) ls (.int (σ.1 7) :: rest))) : W p l e R s m args below meth c H locs cells slots Q (F0 m pc ls (.ref (a 0) :: rest)) := gG K hw 0 7 (ci := 8) (T := TX8) (N := 33) rfl rfl (by decide) iX8 hl rfl hd kk
theorem pM_0_7 (K : MC p s m args meth c cc own nL D tys) (hw : WD D A H0 (mdW a cA σ) H locs) {idx : Nat} {v : Int32} (hl : Cond.fieldLink own idx "PageDeskModel" "width" "I" ∈ TT) (hd : decode cc pc = .ok (.putfield idx, 3)) (kk : ∀ (H1 : Heap) (locs1 : List Loc), WD D A H0 (mdW a cA (upS σ 7 v)) H1 locs1 → W p l e R s m args below meth c H1 locs1 cells slots Q (F0 m (pc + 3) ls rest)) : W p l e R s m args below meth c H locs cells slots Q (F0 m pc ls (.int v :: .ref (a 0) :: rest)) := gP K hw 0 7 (ci := 8) (T := TX8) (N := 33) (ty := .int) rfl rfl (by decide) iX8 tyX8_ok nmX8 hl rfl rfl rfl rfl (Nat.le_of_ble_eq_true rfl) hd (fun H1 locs1 h => kk H1 locs1 h)
theorem gM_0_8 (K : MC p s m args meth c cc own nL D tys) (hw : WD D A H0 (mdW a cA σ) H locs) {idx : Nat} (hl : Cond.fieldLink own idx "PageDeskModel" "height" "I" ∈ TT) (hd : decode cc pc = .ok (.getfield idx, 3)) (kk : W p l e R s m args below meth c H locs cells slots Q (F0 m (pc + 3) ls (.int (σ.1 8) :: rest))) : W p l e R s m args below meth c H locs cells slots Q (F0 m pc ls (.ref (a 0) :: rest)) := gG K hw 0 8 (ci := 8) (T := TX8) (N := 33) rfl rfl (by decide) iX8 hl rfl hd kk
theorem pM_0_8 (K : MC p s m args meth c cc own nL D tys) (hw : WD D A H0 (mdW a cA σ) H locs) {idx : Nat} {v : Int32} (hl : Cond.fieldLink own idx "PageDeskModel" "height" "I" ∈ TT) (hd : decode cc pc = .ok (.putfield idx, 3)) (kk : ∀ (H1 : Heap) (locs1 : List Loc), WD D A H0 (mdW a cA (upS σ 8 v)) H1 locs1 → W p l e R s m args below meth c H1 locs1 cells slots Q (F0 m (pc + 3) ls rest)) : W p l e R s m args below meth c H locs cells slots Q (F0 m pc ls (.int v :: .ref (a 0) :: rest)) := gP K hw 0 8 (ci := 8) (T := TX8) (N := 33) (ty := .int) rfl rfl (by decide) iX8 tyX8_ok nmX8 hl rfl rfl rfl rfl (Nat.le_of_ble_eq_true rfl) hd (fun H1 locs1 h => kk H1 locs1 h)
theorem gM_0_9 (K : MC p s m args meth c cc own nL D tys) (hw : WD D A H0 (mdW a cA σ) H locs) {idx : Nat} (hl : Cond.fieldLink own idx "PageDeskModel" "steps" "[I" ∈ TT) (hd : decode cc pc = .ok (.getfield idx, 3)) (kk : W p l e R s m args below meth c H locs cells slots Q (F0 m (pc + 3) ls (.ref (a 4) :: rest))) : W p l e R s m args below meth c H locs cells slots Q (F0 m pc ls (.ref (a 0) :: rest)) := gG K hw 0 9 (ci := 8) (T := TX8) (N := 33) rfl rfl (by decide) iX8 hl rfl hd kk
theorem gM_0_10 (K : MC p s m args meth c cc own nL D tys) (hw : WD D A H0 (mdW a cA σ) H locs) {idx : Nat} (hl : Cond.fieldLink own idx "PageDeskModel" "phase" "I" ∈ TT) (hd : decode cc pc = .ok (.getfield idx, 3)) (kk : W p l e R s m args below meth c H locs cells slots Q (F0 m (pc + 3) ls (.int (σ.1 10) :: rest))) : W p l e R s m args below meth c H locs cells slots Q (F0 m pc ls (.ref (a 0) :: rest)) := gG K hw 0 10 (ci := 8) (T := TX8) (N := 33) rfl rfl (by decide) iX8 hl rfl hd kk
theorem pM_0_10 (K : MC p s m args meth c cc own nL D tys) (hw : WD D A H0 (mdW a cA σ) H locs) {idx : Nat} {v : Int32} (hl : Cond.fieldLink own idx "PageDeskModel" "phase" "I" ∈ TT) (hd : decode cc pc = .ok (.putfield idx, 3)) (kk : ∀ (H1 : Heap) (locs1 : List Loc), WD D A H0 (mdW a cA (upS σ 10 v)) H1 locs1 → W p l e R s m args below meth c H1 locs1 cells slots Q (F0 m (pc + 3) ls rest)) : W p l e R s m args below meth c H locs cells slots Q (F0 m pc ls (.int v :: .ref (a 0) :: rest)) := gP K hw 0 10 (ci := 8) (T := TX8) (N := 33) (ty := .int) rfl rfl (by decide) iX8 tyX8_ok nmX8 hl rfl rfl rfl rfl (Nat.le_of_ble_eq_true rfl) hd (fun H1 locs1 h => kk H1 locs1 h)
theorem gM_0_11 (K : MC p s m args meth c cc own nL D tys) (hw : WD D A H0 (mdW a cA σ) H locs) {idx : Nat} (hl : Cond.fieldLink own idx "PageDeskModel" "family" "I" ∈ TT) (hd : decode cc pc = .ok (.getfield idx, 3)) (kk : W p l e R s m args below meth c H locs cells slots Q (F0 m (pc + 3) ls (.int (σ.1 11) :: rest))) : W p l e R s m args below meth c H locs cells slots Q (F0 m pc ls (.ref (a 0) :: rest)) := gG K hw 0 11 (ci := 8) (T := TX8) (N := 33) rfl rfl (by decide) iX8 hl rfl hd kk
theorem pM_0_11 (K : MC p s m args meth c cc own nL D tys) (hw : WD D A H0 (mdW a cA σ) H locs) {idx : Nat} {v : Int32} (hl : Cond.fieldLink own idx "PageDeskModel" "family" "I" ∈ TT) (hd : decode cc pc = .ok (.putfield idx, 3)) (kk : ∀ (H1 : Heap) (locs1 : List Loc), WD D A H0 (mdW a cA (upS σ 11 v)) H1 locs1 → W p l e R s m args below meth c H1 locs1 cells slots Q (F0 m (pc + 3) ls rest)) : W p l e R s m args below meth c H locs cells slots Q (F0 m pc ls (.int v :: .ref (a 0) :: rest)) := gP K hw 0 11 (ci := 8) (T := TX8) (N := 33) (ty := .int) rfl rfl (by decide) iX8 tyX8_ok nmX8 hl rfl rfl rfl rfl (Nat.le_of_ble_eq_true rfl) hd (fun H1 locs1 h => kk H1 locs1 h)
theorem gM_0_12 (K : MC p s m args meth c cc own nL D tys) (hw : WD D A H0 (mdW a cA σ) H locs) {idx : Nat} (hl : Cond.fieldLink own idx "PageDeskModel" "group" "I" ∈ TT) (hd : decode cc pc = .ok (.getfield idx, 3)) (kk : W p l e R s m args below meth c H locs cells slots Q (F0 m (pc + 3) ls (.int (σ.1 12) :: rest))) : W p l e R s m args below meth c H locs cells slots Q (F0 m pc ls (.ref (a 0) :: rest)) := gG K hw 0 12 (ci := 8) (T := TX8) (N := 33) rfl rfl (by decide) iX8 hl rfl hd kk
theorem pM_0_12 (K : MC p s m args meth c cc own nL D tys) (hw : WD D A H0 (mdW a cA σ) H locs) {idx : Nat} {v : Int32} (hl : Cond.fieldLink own idx "PageDeskModel" "group" "I" ∈ TT) (hd : decode cc pc = .ok (.putfield idx, 3)) (kk : ∀ (H1 : Heap) (locs1 : List Loc), WD D A H0 (mdW a cA (upS σ 12 v)) H1 locs1 → W p l e R s m args below meth c H1 locs1 cells slots Q (F0 m (pc + 3) ls rest)) : W p l e R s m args below meth c H locs cells slots Q (F0 m pc ls (.int v :: .ref (a 0) :: rest)) := gP K hw 0 12 (ci := 8) (T := TX8) (N := 33) (ty := .int) rfl rfl (by decide) iX8 tyX8_ok nmX8 hl rfl rfl rfl rfl (Nat.le_of_ble_eq_true rfl) hd (fun H1 locs1 h => kk H1 locs1 h)
theorem gM_0_13 (K : MC p s m args meth c cc own nL D tys) (hw : WD D A H0 (mdW a cA σ) H locs) {idx : Nat} (hl : Cond.fieldLink own idx "PageDeskModel" "part" "I" ∈ TT) (hd : decode cc pc = .ok (.getfield idx, 3)) (kk : W p l e R s m args below meth c H locs cells slots Q (F0 m (pc + 3) ls (.int (σ.1 13) :: rest))) : W p l e R s m args below meth c H locs cells slots Q (F0 m pc ls (.ref (a 0) :: rest)) := gG K hw 0 13 (ci := 8) (T := TX8) (N := 33) rfl rfl (by decide) iX8 hl rfl hd kk
theorem pM_0_13 (K : MC p s m args meth c cc own nL D tys) (hw : WD D A H0 (mdW a cA σ) H locs) {idx : Nat} {v : Int32} (hl : Cond.fieldLink own idx "PageDeskModel" "part" "I" ∈ TT) (hd : decode cc pc = .ok (.putfield idx, 3)) (kk : ∀ (H1 : Heap) (locs1 : List Loc), WD D A H0 (mdW a cA (upS σ 13 v)) H1 locs1 → W p l e R s m args below meth c H1 locs1 cells slots Q (F0 m (pc + 3) ls rest)) : W p l e R s m args below meth c H locs cells slots Q (F0 m pc ls (.int v :: .ref (a 0) :: rest)) := gP K hw 0 13 (ci := 8) (T := TX8) (N := 33) (ty := .int) rfl rfl (by decide) iX8 tyX8_ok nmX8 hl rfl rfl rfl rfl (Nat.le_of_ble_eq_true rfl) hd (fun H1 locs1 h => kk H1 locs1 h)
theorem gM_0_14 (K : MC p s m args meth c cc own nL D tys) (hw : WD D A H0 (mdW a cA σ) H locs) {idx : Nat} (hl : Cond.fieldLink own idx "PageDeskModel" "signed" "Z" ∈ TT) (hd : decode cc pc = .ok (.getfield idx, 3)) (kk : W p l e R s m args below meth c H locs cells slots Q (F0 m (pc + 3) ls (.int (σ.1 14) :: rest))) : W p l e R s m args below meth c H locs cells slots Q (F0 m pc ls (.ref (a 0) :: rest)) := gG K hw 0 14 (ci := 8) (T := TX8) (N := 33) rfl rfl (by decide) iX8 hl rfl hd kk
theorem pM_0_14 (K : MC p s m args meth c cc own nL D tys) (hw : WD D A H0 (mdW a cA σ) H locs) {idx : Nat} {v : Int32} (hz : narrow .boolean (.int v) = .int v) (hf : fits .boolean (.int v) = true) (hl : Cond.fieldLink own idx "PageDeskModel" "signed" "Z" ∈ TT) (hd : decode cc pc = .ok (.putfield idx, 3)) (kk : ∀ (H1 : Heap) (locs1 : List Loc), WD D A H0 (mdW a cA (upS σ 14 v)) H1 locs1 → W p l e R s m args below meth c H1 locs1 cells slots Q (F0 m (pc + 3) ls rest)) : W p l e R s m args below meth c H locs cells slots Q (F0 m pc ls (.int v :: .ref (a 0) :: rest)) := gP K hw 0 14 (ci := 8) (T := TX8) (N := 33) (ty := .boolean) rfl rfl (by decide) iX8 tyX8_ok nmX8 hl rfl rfl hz hf (Nat.le_of_ble_eq_true rfl) hd (fun H1 locs1 h => kk H1 locs1 h)
theorem gM_0_15 (K : MC p s m args meth c cc own nL D tys) (hw : WD D A H0 (mdW a cA σ) H locs) {idx : Nat} (hl : Cond.fieldLink own idx "PageDeskModel" "negative" "Z" ∈ TT) (hd : decode cc pc = .ok (.getfield idx, 3)) (kk : W p l e R s m args below meth c H locs cells slots Q (F0 m (pc + 3) ls (.int (σ.1 15) :: rest))) : W p l e R s m args below meth c H locs cells slots Q (F0 m pc ls (.ref (a 0) :: rest)) := gG K hw 0 15 (ci := 8) (T := TX8) (N := 33) rfl rfl (by decide) iX8 hl rfl hd kk
theorem pM_0_15 (K : MC p s m args meth c cc own nL D tys) (hw : WD D A H0 (mdW a cA σ) H locs) {idx : Nat} {v : Int32} (hz : narrow .boolean (.int v) = .int v) (hf : fits .boolean (.int v) = true) (hl : Cond.fieldLink own idx "PageDeskModel" "negative" "Z" ∈ TT) (hd : decode cc pc = .ok (.putfield idx, 3)) (kk : ∀ (H1 : Heap) (locs1 : List Loc), WD D A H0 (mdW a cA (upS σ 15 v)) H1 locs1 → W p l e R s m args below meth c H1 locs1 cells slots Q (F0 m (pc + 3) ls rest)) : W p l e R s m args below meth c H locs cells slots Q (F0 m pc ls (.int v :: .ref (a 0) :: rest)) := gP K hw 0 15 (ci := 8) (T := TX8) (N := 33) (ty := .boolean) rfl rfl (by decide) iX8 tyX8_ok nmX8 hl rfl rfl hz hf (Nat.le_of_ble_eq_true rfl) hd (fun H1 locs1 h => kk H1 locs1 h)
theorem gM_0_16 (K : MC p s m args meth c cc own nL D tys) (hw : WD D A H0 (mdW a cA σ) H locs) {idx : Nat} (hl : Cond.fieldLink own idx "PageDeskModel" "whole" "I" ∈ TT) (hd : decode cc pc = .ok (.getfield idx, 3)) (kk : W p l e R s m args below meth c H locs cells slots Q (F0 m (pc + 3) ls (.int (σ.1 16) :: rest))) : W p l e R s m args below meth c H locs cells slots Q (F0 m pc ls (.ref (a 0) :: rest)) := gG K hw 0 16 (ci := 8) (T := TX8) (N := 33) rfl rfl (by decide) iX8 hl rfl hd kk
theorem pM_0_16 (K : MC p s m args meth c cc own nL D tys) (hw : WD D A H0 (mdW a cA σ) H locs) {idx : Nat} {v : Int32} (hl : Cond.fieldLink own idx "PageDeskModel" "whole" "I" ∈ TT) (hd : decode cc pc = .ok (.putfield idx, 3)) (kk : ∀ (H1 : Heap) (locs1 : List Loc), WD D A H0 (mdW a cA (upS σ 16 v)) H1 locs1 → W p l e R s m args below meth c H1 locs1 cells slots Q (F0 m (pc + 3) ls rest)) : W p l e R s m args below meth c H locs cells slots Q (F0 m pc ls (.int v :: .ref (a 0) :: rest)) := gP K hw 0 16 (ci := 8) (T := TX8) (N := 33) (ty := .int) rfl rfl (by decide) iX8 tyX8_ok nmX8 hl rfl rfl rfl rfl (Nat.le_of_ble_eq_true rfl) hd (fun H1 locs1 h => kk H1 locs1 h)
theorem gM_0_17 (K : MC p s m args meth c cc own nL D tys) (hw : WD D A H0 (mdW a cA σ) H locs) {idx : Nat} (hl : Cond.fieldLink own idx "PageDeskModel" "behind" "I" ∈ TT) (hd : decode cc pc = .ok (.getfield idx, 3)) (kk : W p l e R s m args below meth c H locs cells slots Q (F0 m (pc + 3) ls (.int (σ.1 17) :: rest))) : W p l e R s m args below meth c H locs cells slots Q (F0 m pc ls (.ref (a 0) :: rest)) := gG K hw 0 17 (ci := 8) (T := TX8) (N := 33) rfl rfl (by decide) iX8 hl rfl hd kk
theorem pM_0_17 (K : MC p s m args meth c cc own nL D tys) (hw : WD D A H0 (mdW a cA σ) H locs) {idx : Nat} {v : Int32} (hl : Cond.fieldLink own idx "PageDeskModel" "behind" "I" ∈ TT) (hd : decode cc pc = .ok (.putfield idx, 3)) (kk : ∀ (H1 : Heap) (locs1 : List Loc), WD D A H0 (mdW a cA (upS σ 17 v)) H1 locs1 → W p l e R s m args below meth c H1 locs1 cells slots Q (F0 m (pc + 3) ls rest)) : W p l e R s m args below meth c H locs cells slots Q (F0 m pc ls (.int v :: .ref (a 0) :: rest)) := gP K hw 0 17 (ci := 8) (T := TX8) (N := 33) (ty := .int) rfl rfl (by decide) iX8 tyX8_ok nmX8 hl rfl rfl rfl rfl (Nat.le_of_ble_eq_true rfl) hd (fun H1 locs1 h => kk H1 locs1 h)
theorem gM_0_18 (K : MC p s m args meth c cc own nL D tys) (hw : WD D A H0 (mdW a cA σ) H locs) {idx : Nat} (hl : Cond.fieldLink own idx "PageDeskModel" "places" "I" ∈ TT) (hd : decode cc pc = .ok (.getfield idx, 3)) (kk : W p l e R s m args below meth c H locs cells slots Q (F0 m (pc + 3) ls (.int (σ.1 18) :: rest))) : W p l e R s m args below meth c H locs cells slots Q (F0 m pc ls (.ref (a 0) :: rest)) := gG K hw 0 18 (ci := 8) (T := TX8) (N := 33) rfl rfl (by decide) iX8 hl rfl hd kk
theorem pM_0_18 (K : MC p s m args meth c cc own nL D tys) (hw : WD D A H0 (mdW a cA σ) H locs) {idx : Nat} {v : Int32} (hl : Cond.fieldLink own idx "PageDeskModel" "places" "I" ∈ TT) (hd : decode cc pc = .ok (.putfield idx, 3)) (kk : ∀ (H1 : Heap) (locs1 : List Loc), WD D A H0 (mdW a cA (upS σ 18 v)) H1 locs1 → W p l e R s m args below meth c H1 locs1 cells slots Q (F0 m (pc + 3) ls rest)) : W p l e R s m args below meth c H locs cells slots Q (F0 m pc ls (.int v :: .ref (a 0) :: rest)) := gP K hw 0 18 (ci := 8) (T := TX8) (N := 33) (ty := .int) rfl rfl (by decide) iX8 tyX8_ok nmX8 hl rfl rfl rfl rfl (Nat.le_of_ble_eq_true rfl) hd (fun H1 locs1 h => kk H1 locs1 h)
theorem gM_0_19 (K : MC p s m args meth c cc own nL D tys) (hw : WD D A H0 (mdW a cA σ) H locs) {idx : Nat} (hl : Cond.fieldLink own idx "PageDeskModel" "dataLeft" "I" ∈ TT) (hd : decode cc pc = .ok (.getfield idx, 3)) (kk : W p l e R s m args below meth c H locs cells slots Q (F0 m (pc + 3) ls (.int (σ.1 19) :: rest))) : W p l e R s m args below meth c H locs cells slots Q (F0 m pc ls (.ref (a 0) :: rest)) := gG K hw 0 19 (ci := 8) (T := TX8) (N := 33) rfl rfl (by decide) iX8 hl rfl hd kk
theorem pM_0_19 (K : MC p s m args meth c cc own nL D tys) (hw : WD D A H0 (mdW a cA σ) H locs) {idx : Nat} {v : Int32} (hl : Cond.fieldLink own idx "PageDeskModel" "dataLeft" "I" ∈ TT) (hd : decode cc pc = .ok (.putfield idx, 3)) (kk : ∀ (H1 : Heap) (locs1 : List Loc), WD D A H0 (mdW a cA (upS σ 19 v)) H1 locs1 → W p l e R s m args below meth c H1 locs1 cells slots Q (F0 m (pc + 3) ls rest)) : W p l e R s m args below meth c H locs cells slots Q (F0 m pc ls (.int v :: .ref (a 0) :: rest)) := gP K hw 0 19 (ci := 8) (T := TX8) (N := 33) (ty := .int) rfl rfl (by decide) iX8 tyX8_ok nmX8 hl rfl rfl rfl rfl (Nat.le_of_ble_eq_true rfl) hd (fun H1 locs1 h => kk H1 locs1 h)
theorem gM_0_20 (K : MC p s m args meth c cc own nL D tys) (hw : WD D A H0 (mdW a cA σ) H locs) {idx : Nat} (hl : Cond.fieldLink own idx "PageDeskModel" "last" "Z" ∈ TT) (hd : decode cc pc = .ok (.getfield idx, 3)) (kk : W p l e R s m args below meth c H locs cells slots Q (F0 m (pc + 3) ls (.int (σ.1 20) :: rest))) : W p l e R s m args below meth c H locs cells slots Q (F0 m pc ls (.ref (a 0) :: rest)) := gG K hw 0 20 (ci := 8) (T := TX8) (N := 33) rfl rfl (by decide) iX8 hl rfl hd kk
theorem pM_0_20 (K : MC p s m args meth c cc own nL D tys) (hw : WD D A H0 (mdW a cA σ) H locs) {idx : Nat} {v : Int32} (hz : narrow .boolean (.int v) = .int v) (hf : fits .boolean (.int v) = true) (hl : Cond.fieldLink own idx "PageDeskModel" "last" "Z" ∈ TT) (hd : decode cc pc = .ok (.putfield idx, 3)) (kk : ∀ (H1 : Heap) (locs1 : List Loc), WD D A H0 (mdW a cA (upS σ 20 v)) H1 locs1 → W p l e R s m args below meth c H1 locs1 cells slots Q (F0 m (pc + 3) ls rest)) : W p l e R s m args below meth c H locs cells slots Q (F0 m pc ls (.int v :: .ref (a 0) :: rest)) := gP K hw 0 20 (ci := 8) (T := TX8) (N := 33) (ty := .boolean) rfl rfl (by decide) iX8 tyX8_ok nmX8 hl rfl rfl hz hf (Nat.le_of_ble_eq_true rfl) hd (fun H1 locs1 h => kk H1 locs1 h)
theorem gM_0_21 (K : MC p s m args meth c cc own nL D tys) (hw : WD D A H0 (mdW a cA σ) H locs) {idx : Nat} (hl : Cond.fieldLink own idx "PageDeskModel" "dataTo" "I" ∈ TT) (hd : decode cc pc = .ok (.getfield idx, 3)) (kk : W p l e R s m args below meth c H locs cells slots Q (F0 m (pc + 3) ls (.int (σ.1 21) :: rest))) : W p l e R s m args below meth c H locs cells slots Q (F0 m pc ls (.ref (a 0) :: rest)) := gG K hw 0 21 (ci := 8) (T := TX8) (N := 33) rfl rfl (by decide) iX8 hl rfl hd kk
theorem pM_0_21 (K : MC p s m args meth c cc own nL D tys) (hw : WD D A H0 (mdW a cA σ) H locs) {idx : Nat} {v : Int32} (hl : Cond.fieldLink own idx "PageDeskModel" "dataTo" "I" ∈ TT) (hd : decode cc pc = .ok (.putfield idx, 3)) (kk : ∀ (H1 : Heap) (locs1 : List Loc), WD D A H0 (mdW a cA (upS σ 21 v)) H1 locs1 → W p l e R s m args below meth c H1 locs1 cells slots Q (F0 m (pc + 3) ls rest)) : W p l e R s m args below meth c H locs cells slots Q (F0 m pc ls (.int v :: .ref (a 0) :: rest)) := gP K hw 0 21 (ci := 8) (T := TX8) (N := 33) (ty := .int) rfl rfl (by decide) iX8 tyX8_ok nmX8 hl rfl rfl rfl rfl (Nat.le_of_ble_eq_true rfl) hd (fun H1 locs1 h => kk H1 locs1 h)
theorem gM_0_22 (K : MC p s m args meth c cc own nL D tys) (hw : WD D A H0 (mdW a cA σ) H locs) {idx : Nat} (hl : Cond.fieldLink own idx "PageDeskModel" "bytesCame" "I" ∈ TT) (hd : decode cc pc = .ok (.getfield idx, 3)) (kk : W p l e R s m args below meth c H locs cells slots Q (F0 m (pc + 3) ls (.int (σ.1 22) :: rest))) : W p l e R s m args below meth c H locs cells slots Q (F0 m pc ls (.ref (a 0) :: rest)) := gG K hw 0 22 (ci := 8) (T := TX8) (N := 33) rfl rfl (by decide) iX8 hl rfl hd kk
theorem pM_0_22 (K : MC p s m args meth c cc own nL D tys) (hw : WD D A H0 (mdW a cA σ) H locs) {idx : Nat} {v : Int32} (hl : Cond.fieldLink own idx "PageDeskModel" "bytesCame" "I" ∈ TT) (hd : decode cc pc = .ok (.putfield idx, 3)) (kk : ∀ (H1 : Heap) (locs1 : List Loc), WD D A H0 (mdW a cA (upS σ 22 v)) H1 locs1 → W p l e R s m args below meth c H1 locs1 cells slots Q (F0 m (pc + 3) ls rest)) : W p l e R s m args below meth c H locs cells slots Q (F0 m pc ls (.int v :: .ref (a 0) :: rest)) := gP K hw 0 22 (ci := 8) (T := TX8) (N := 33) (ty := .int) rfl rfl (by decide) iX8 tyX8_ok nmX8 hl rfl rfl rfl rfl (Nat.le_of_ble_eq_true rfl) hd (fun H1 locs1 h => kk H1 locs1 h)
theorem gM_0_23 (K : MC p s m args meth c cc own nL D tys) (hw : WD D A H0 (mdW a cA σ) H locs) {idx : Nat} (hl : Cond.fieldLink own idx "PageDeskModel" "glyphs" "I" ∈ TT) (hd : decode cc pc = .ok (.getfield idx, 3)) (kk : W p l e R s m args below meth c H locs cells slots Q (F0 m (pc + 3) ls (.int (σ.1 23) :: rest))) : W p l e R s m args below meth c H locs cells slots Q (F0 m pc ls (.ref (a 0) :: rest)) := gG K hw 0 23 (ci := 8) (T := TX8) (N := 33) rfl rfl (by decide) iX8 hl rfl hd kk
theorem pM_0_23 (K : MC p s m args meth c cc own nL D tys) (hw : WD D A H0 (mdW a cA σ) H locs) {idx : Nat} {v : Int32} (hl : Cond.fieldLink own idx "PageDeskModel" "glyphs" "I" ∈ TT) (hd : decode cc pc = .ok (.putfield idx, 3)) (kk : ∀ (H1 : Heap) (locs1 : List Loc), WD D A H0 (mdW a cA (upS σ 23 v)) H1 locs1 → W p l e R s m args below meth c H1 locs1 cells slots Q (F0 m (pc + 3) ls rest)) : W p l e R s m args below meth c H locs cells slots Q (F0 m pc ls (.int v :: .ref (a 0) :: rest)) := gP K hw 0 23 (ci := 8) (T := TX8) (N := 33) (ty := .int) rfl rfl (by decide) iX8 tyX8_ok nmX8 hl rfl rfl rfl rfl (Nat.le_of_ble_eq_true rfl) hd (fun H1 locs1 h => kk H1 locs1 h)
theorem gM_0_24 (K : MC p s m args meth c cc own nL D tys) (hw : WD D A H0 (mdW a cA σ) H locs) {idx : Nat} (hl : Cond.fieldLink own idx "PageDeskModel" "allGlyphs" "I" ∈ TT) (hd : decode cc pc = .ok (.getfield idx, 3)) (kk : W p l e R s m args below meth c H locs cells slots Q (F0 m (pc + 3) ls (.int (σ.1 24) :: rest))) : W p l e R s m args below meth c H locs cells slots Q (F0 m pc ls (.ref (a 0) :: rest)) := gG K hw 0 24 (ci := 8) (T := TX8) (N := 33) rfl rfl (by decide) iX8 hl rfl hd kk
theorem pM_0_24 (K : MC p s m args meth c cc own nL D tys) (hw : WD D A H0 (mdW a cA σ) H locs) {idx : Nat} {v : Int32} (hl : Cond.fieldLink own idx "PageDeskModel" "allGlyphs" "I" ∈ TT) (hd : decode cc pc = .ok (.putfield idx, 3)) (kk : ∀ (H1 : Heap) (locs1 : List Loc), WD D A H0 (mdW a cA (upS σ 24 v)) H1 locs1 → W p l e R s m args below meth c H1 locs1 cells slots Q (F0 m (pc + 3) ls rest)) : W p l e R s m args below meth c H locs cells slots Q (F0 m pc ls (.int v :: .ref (a 0) :: rest)) := gP K hw 0 24 (ci := 8) (T := TX8) (N := 33) (ty := .int) rfl rfl (by decide) iX8 tyX8_ok nmX8 hl rfl rfl rfl rfl (Nat.le_of_ble_eq_true rfl) hd (fun H1 locs1 h => kk H1 locs1 h)
theorem gM_0_25 (K : MC p s m args meth c cc own nL D tys) (hw : WD D A H0 (mdW a cA σ) H locs) {idx : Nat} (hl : Cond.fieldLink own idx "PageDeskModel" "touched" "Z" ∈ TT) (hd : decode cc pc = .ok (.getfield idx, 3)) (kk : W p l e R s m args below meth c H locs cells slots Q (F0 m (pc + 3) ls (.int (σ.1 25) :: rest))) : W p l e R s m args below meth c H locs cells slots Q (F0 m pc ls (.ref (a 0) :: rest)) := gG K hw 0 25 (ci := 8) (T := TX8) (N := 33) rfl rfl (by decide) iX8 hl rfl hd kk
theorem pM_0_25 (K : MC p s m args meth c cc own nL D tys) (hw : WD D A H0 (mdW a cA σ) H locs) {idx : Nat} {v : Int32} (hz : narrow .boolean (.int v) = .int v) (hf : fits .boolean (.int v) = true) (hl : Cond.fieldLink own idx "PageDeskModel" "touched" "Z" ∈ TT) (hd : decode cc pc = .ok (.putfield idx, 3)) (kk : ∀ (H1 : Heap) (locs1 : List Loc), WD D A H0 (mdW a cA (upS σ 25 v)) H1 locs1 → W p l e R s m args below meth c H1 locs1 cells slots Q (F0 m (pc + 3) ls rest)) : W p l e R s m args below meth c H locs cells slots Q (F0 m pc ls (.int v :: .ref (a 0) :: rest)) := gP K hw 0 25 (ci := 8) (T := TX8) (N := 33) (ty := .boolean) rfl rfl (by decide) iX8 tyX8_ok nmX8 hl rfl rfl hz hf (Nat.le_of_ble_eq_true rfl) hd (fun H1 locs1 h => kk H1 locs1 h)
theorem gM_0_26 (K : MC p s m args meth c cc own nL D tys) (hw : WD D A H0 (mdW a cA σ) H locs) {idx : Nat} (hl : Cond.fieldLink own idx "PageDeskModel" "glyph" "[I" ∈ TT) (hd : decode cc pc = .ok (.getfield idx, 3)) (kk : W p l e R s m args below meth c H locs cells slots Q (F0 m (pc + 3) ls (.ref (a 5) :: rest))) : W p l e R s m args below meth c H locs cells slots Q (F0 m pc ls (.ref (a 0) :: rest)) := gG K hw 0 26 (ci := 8) (T := TX8) (N := 33) rfl rfl (by decide) iX8 hl rfl hd kk
theorem gM_0_27 (K : MC p s m args meth c cc own nL D tys) (hw : WD D A H0 (mdW a cA σ) H locs) {idx : Nat} (hl : Cond.fieldLink own idx "PageDeskModel" "pages" "I" ∈ TT) (hd : decode cc pc = .ok (.getfield idx, 3)) (kk : W p l e R s m args below meth c H locs cells slots Q (F0 m (pc + 3) ls (.int (σ.1 27) :: rest))) : W p l e R s m args below meth c H locs cells slots Q (F0 m pc ls (.ref (a 0) :: rest)) := gG K hw 0 27 (ci := 8) (T := TX8) (N := 33) rfl rfl (by decide) iX8 hl rfl hd kk
theorem pM_0_27 (K : MC p s m args meth c cc own nL D tys) (hw : WD D A H0 (mdW a cA σ) H locs) {idx : Nat} {v : Int32} (hl : Cond.fieldLink own idx "PageDeskModel" "pages" "I" ∈ TT) (hd : decode cc pc = .ok (.putfield idx, 3)) (kk : ∀ (H1 : Heap) (locs1 : List Loc), WD D A H0 (mdW a cA (upS σ 27 v)) H1 locs1 → W p l e R s m args below meth c H1 locs1 cells slots Q (F0 m (pc + 3) ls rest)) : W p l e R s m args below meth c H locs cells slots Q (F0 m pc ls (.int v :: .ref (a 0) :: rest)) := gP K hw 0 27 (ci := 8) (T := TX8) (N := 33) (ty := .int) rfl rfl (by decide) iX8 tyX8_ok nmX8 hl rfl rfl rfl rfl (Nat.le_of_ble_eq_true rfl) hd (fun H1 locs1 h => kk H1 locs1 h)
theorem gM_0_28 (K : MC p s m args meth c cc own nL D tys) (hw : WD D A H0 (mdW a cA σ) H locs) {idx : Nat} (hl : Cond.fieldLink own idx "PageDeskModel" "page" "[I" ∈ TT) (hd : decode cc pc = .ok (.getfield idx, 3)) (kk : W p l e R s m args below meth c H locs cells slots Q (F0 m (pc + 3) ls (.ref (a 6) :: rest))) : W p l e R s m args below meth c H locs cells slots Q (F0 m pc ls (.ref (a 0) :: rest)) := gG K hw 0 28 (ci := 8) (T := TX8) (N := 33) rfl rfl (by decide) iX8 hl rfl hd kk
theorem gM_0_29 (K : MC p s m args meth c cc own nL D tys) (hw : WD D A H0 (mdW a cA σ) H locs) {idx : Nat} (hl : Cond.fieldLink own idx "PageDeskModel" "others" "I" ∈ TT) (hd : decode cc pc = .ok (.getfield idx, 3)) (kk : W p l e R s m args below meth c H locs cells slots Q (F0 m (pc + 3) ls (.int (σ.1 29) :: rest))) : W p l e R s m args below meth c H locs cells slots Q (F0 m pc ls (.ref (a 0) :: rest)) := gG K hw 0 29 (ci := 8) (T := TX8) (N := 33) rfl rfl (by decide) iX8 hl rfl hd kk
theorem pM_0_29 (K : MC p s m args meth c cc own nL D tys) (hw : WD D A H0 (mdW a cA σ) H locs) {idx : Nat} {v : Int32} (hl : Cond.fieldLink own idx "PageDeskModel" "others" "I" ∈ TT) (hd : decode cc pc = .ok (.putfield idx, 3)) (kk : ∀ (H1 : Heap) (locs1 : List Loc), WD D A H0 (mdW a cA (upS σ 29 v)) H1 locs1 → W p l e R s m args below meth c H1 locs1 cells slots Q (F0 m (pc + 3) ls rest)) : W p l e R s m args below meth c H locs cells slots Q (F0 m pc ls (.int v :: .ref (a 0) :: rest)) := gP K hw 0 29 (ci := 8) (T := TX8) (N := 33) (ty := .int) rfl rfl (by decide) iX8 tyX8_ok nmX8 hl rfl rfl rfl rfl (Nat.le_of_ble_eq_true rfl) hd (fun H1 locs1 h => kk H1 locs1 h)
theorem gM_0_30 (K : MC p s m args meth c cc own nL D tys) (hw : WD D A H0 (mdW a cA σ) H locs) {idx : Nat} (hl : Cond.fieldLink own idx "PageDeskModel" "other" "[I" ∈ TT) (hd : decode cc pc = .ok (.getfield idx, 3)) (kk : W p l e R s m args below meth c H locs cells slots Q (F0 m (pc + 3) ls (.ref (a 7) :: rest))) : W p l e R s m args below meth c H locs cells slots Q (F0 m pc ls (.ref (a 0) :: rest)) := gG K hw 0 30 (ci := 8) (T := TX8) (N := 33) rfl rfl (by decide) iX8 hl rfl hd kk
theorem gM_0_31 (K : MC p s m args meth c cc own nL D tys) (hw : WD D A H0 (mdW a cA σ) H locs) {idx : Nat} (hl : Cond.fieldLink own idx "PageDeskModel" "stored" "I" ∈ TT) (hd : decode cc pc = .ok (.getfield idx, 3)) (kk : W p l e R s m args below meth c H locs cells slots Q (F0 m (pc + 3) ls (.int (σ.1 31) :: rest))) : W p l e R s m args below meth c H locs cells slots Q (F0 m pc ls (.ref (a 0) :: rest)) := gG K hw 0 31 (ci := 8) (T := TX8) (N := 33) rfl rfl (by decide) iX8 hl rfl hd kk
theorem pM_0_31 (K : MC p s m args meth c cc own nL D tys) (hw : WD D A H0 (mdW a cA σ) H locs) {idx : Nat} {v : Int32} (hl : Cond.fieldLink own idx "PageDeskModel" "stored" "I" ∈ TT) (hd : decode cc pc = .ok (.putfield idx, 3)) (kk : ∀ (H1 : Heap) (locs1 : List Loc), WD D A H0 (mdW a cA (upS σ 31 v)) H1 locs1 → W p l e R s m args below meth c H1 locs1 cells slots Q (F0 m (pc + 3) ls rest)) : W p l e R s m args below meth c H locs cells slots Q (F0 m pc ls (.int v :: .ref (a 0) :: rest)) := gP K hw 0 31 (ci := 8) (T := TX8) (N := 33) (ty := .int) rfl rfl (by decide) iX8 tyX8_ok nmX8 hl rfl rfl rfl rfl (Nat.le_of_ble_eq_true rfl) hd (fun H1 locs1 h => kk H1 locs1 h)
theorem gM_0_32 (K : MC p s m args meth c cc own nL D tys) (hw : WD D A H0 (mdW a cA σ) H locs) {idx : Nat} (hl : Cond.fieldLink own idx "PageDeskModel" "store" "[B" ∈ TT) (hd : decode cc pc = .ok (.getfield idx, 3)) (kk : W p l e R s m args below meth c H locs cells slots Q (F0 m (pc + 3) ls (.ref (a 8) :: rest))) : W p l e R s m args below meth c H locs cells slots Q (F0 m pc ls (.ref (a 0) :: rest)) := gG K hw 0 32 (ci := 8) (T := TX8) (N := 33) rfl rfl (by decide) iX8 hl rfl hd kk
theorem lM_1 (K : MC p s m args meth c cc own nL D (mdT cA)) (hw : WD D A H0 (mdW a cA σ) H locs) {i : Int32} {k : Nat} (hin : vp_in i 53) (hk : i.toNatClampNeg = k) (hd : decode cc pc = .ok (.iaload, 1)) (kk : W p l e R s m args below meth c H locs cells slots Q (F0 m (pc + 1) ls (.int (σ.2.1 0 k) :: rest))) : W p l e R s m args below meth c H locs cells slots Q (F0 m pc ls (.int i :: .ref (a 1) :: rest)) := gIl K hw 1 0 rfl rfl hin hd (by rw [hk]; exact kk)
theorem sM_1 (K : MC p s m args meth c cc own nL D (mdT cA)) (hw : WD D A H0 (mdW a cA σ) H locs) {i : Int32} {x : Int32} {k : Nat} (hin : vp_in i 53) (hk : i.toNatClampNeg = k) (hd : decode cc pc = .ok (.iastore, 1)) (kk : ∀ (H1 : Heap) (locs1 : List Loc), WD D A H0 (mdW a cA (upA σ 0 k x)) H1 locs1 → W p l e R s m args below meth c H1 locs1 cells slots Q (F0 m (pc + 1) ls rest)) : W p l e R s m args below meth c H locs cells slots Q (F0 m pc ls (.int x :: .int i :: .ref (a 1) :: rest)) := by
  subst hk
  exact gIs K hw 1 0 rfl rfl hin hd (fun H1 locs1 h => kk H1 locs1 h)
theorem lM_2 (K : MC p s m args meth c cc own nL D (mdT cA)) (hw : WD D A H0 (mdW a cA σ) H locs) {i : Int32} {k : Nat} (hin : vp_in i 159) (hk : i.toNatClampNeg = k) (hd : decode cc pc = .ok (.iaload, 1)) (kk : W p l e R s m args below meth c H locs cells slots Q (F0 m (pc + 1) ls (.int (σ.2.1 1 k) :: rest))) : W p l e R s m args below meth c H locs cells slots Q (F0 m pc ls (.int i :: .ref (a 2) :: rest)) := gIl K hw 2 1 rfl rfl hin hd (by rw [hk]; exact kk)
theorem sM_2 (K : MC p s m args meth c cc own nL D (mdT cA)) (hw : WD D A H0 (mdW a cA σ) H locs) {i : Int32} {x : Int32} {k : Nat} (hin : vp_in i 159) (hk : i.toNatClampNeg = k) (hd : decode cc pc = .ok (.iastore, 1)) (kk : ∀ (H1 : Heap) (locs1 : List Loc), WD D A H0 (mdW a cA (upA σ 1 k x)) H1 locs1 → W p l e R s m args below meth c H1 locs1 cells slots Q (F0 m (pc + 1) ls rest)) : W p l e R s m args below meth c H locs cells slots Q (F0 m pc ls (.int x :: .int i :: .ref (a 2) :: rest)) := by
  subst hk
  exact gIs K hw 2 1 rfl rfl hin hd (fun H1 locs1 h => kk H1 locs1 h)
theorem lM_3 (K : MC p s m args meth c cc own nL D (mdT cA)) (hw : WD D A H0 (mdW a cA σ) H locs) {i : Int32} {k : Nat} (hin : vp_in i 3) (hk : i.toNatClampNeg = k) (hd : decode cc pc = .ok (.baload, 1)) (kk : W p l e R s m args below meth c H locs cells slots Q (F0 m (pc + 1) ls (.int (σ.2.1 2 k) :: rest))) : W p l e R s m args below meth c H locs cells slots Q (F0 m pc ls (.int i :: .ref (a 3) :: rest)) := gZl K hw 3 2 rfl rfl hin hd (by rw [hk]; exact kk)
theorem sM_3 (K : MC p s m args meth c cc own nL D (mdT cA)) (hw : WD D A H0 (mdW a cA σ) H locs) {i : Int32} {x : Int32} {k : Nat} (hin : vp_in i 3) (hk : i.toNatClampNeg = k) (hd : decode cc pc = .ok (.bastore, 1)) (kk : ∀ (H1 : Heap) (locs1 : List Loc), WD D A H0 (mdW a cA (upA σ 2 k (vp_nar .boolean x))) H1 locs1 → W p l e R s m args below meth c H1 locs1 cells slots Q (F0 m (pc + 1) ls rest)) : W p l e R s m args below meth c H locs cells slots Q (F0 m pc ls (.int x :: .int i :: .ref (a 3) :: rest)) := by
  subst hk
  exact gZs K hw 3 2 rfl rfl hin hd (fun H1 locs1 h => kk H1 locs1 h)
theorem lM_4 (K : MC p s m args meth c cc own nL D (mdT cA)) (hw : WD D A H0 (mdW a cA σ) H locs) {i : Int32} {k : Nat} (hin : vp_in i 512) (hk : i.toNatClampNeg = k) (hd : decode cc pc = .ok (.iaload, 1)) (kk : W p l e R s m args below meth c H locs cells slots Q (F0 m (pc + 1) ls (.int (σ.2.1 3 k) :: rest))) : W p l e R s m args below meth c H locs cells slots Q (F0 m pc ls (.int i :: .ref (a 4) :: rest)) := gIl K hw 4 3 rfl rfl hin hd (by rw [hk]; exact kk)
theorem sM_4 (K : MC p s m args meth c cc own nL D (mdT cA)) (hw : WD D A H0 (mdW a cA σ) H locs) {i : Int32} {x : Int32} {k : Nat} (hin : vp_in i 512) (hk : i.toNatClampNeg = k) (hd : decode cc pc = .ok (.iastore, 1)) (kk : ∀ (H1 : Heap) (locs1 : List Loc), WD D A H0 (mdW a cA (upA σ 3 k x)) H1 locs1 → W p l e R s m args below meth c H1 locs1 cells slots Q (F0 m (pc + 1) ls rest)) : W p l e R s m args below meth c H locs cells slots Q (F0 m pc ls (.int x :: .int i :: .ref (a 4) :: rest)) := by
  subst hk
  exact gIs K hw 4 3 rfl rfl hin hd (fun H1 locs1 h => kk H1 locs1 h)
theorem lM_5 (K : MC p s m args meth c cc own nL D (mdT cA)) (hw : WD D A H0 (mdW a cA σ) H locs) {i : Int32} {k : Nat} (hin : vp_in i 24000) (hk : i.toNatClampNeg = k) (hd : decode cc pc = .ok (.iaload, 1)) (kk : W p l e R s m args below meth c H locs cells slots Q (F0 m (pc + 1) ls (.int (σ.2.1 4 k) :: rest))) : W p l e R s m args below meth c H locs cells slots Q (F0 m pc ls (.int i :: .ref (a 5) :: rest)) := gIl K hw 5 4 rfl rfl hin hd (by rw [hk]; exact kk)
theorem sM_5 (K : MC p s m args meth c cc own nL D (mdT cA)) (hw : WD D A H0 (mdW a cA σ) H locs) {i : Int32} {x : Int32} {k : Nat} (hin : vp_in i 24000) (hk : i.toNatClampNeg = k) (hd : decode cc pc = .ok (.iastore, 1)) (kk : ∀ (H1 : Heap) (locs1 : List Loc), WD D A H0 (mdW a cA (upA σ 4 k x)) H1 locs1 → W p l e R s m args below meth c H1 locs1 cells slots Q (F0 m (pc + 1) ls rest)) : W p l e R s m args below meth c H locs cells slots Q (F0 m pc ls (.int x :: .int i :: .ref (a 5) :: rest)) := by
  subst hk
  exact gIs K hw 5 4 rfl rfl hin hd (fun H1 locs1 h => kk H1 locs1 h)
theorem lM_6 (K : MC p s m args meth c cc own nL D (mdT cA)) (hw : WD D A H0 (mdW a cA σ) H locs) {i : Int32} {k : Nat} (hin : vp_in i 160) (hk : i.toNatClampNeg = k) (hd : decode cc pc = .ok (.iaload, 1)) (kk : W p l e R s m args below meth c H locs cells slots Q (F0 m (pc + 1) ls (.int (σ.2.1 5 k) :: rest))) : W p l e R s m args below meth c H locs cells slots Q (F0 m pc ls (.int i :: .ref (a 6) :: rest)) := gIl K hw 6 5 rfl rfl hin hd (by rw [hk]; exact kk)
theorem sM_6 (K : MC p s m args meth c cc own nL D (mdT cA)) (hw : WD D A H0 (mdW a cA σ) H locs) {i : Int32} {x : Int32} {k : Nat} (hin : vp_in i 160) (hk : i.toNatClampNeg = k) (hd : decode cc pc = .ok (.iastore, 1)) (kk : ∀ (H1 : Heap) (locs1 : List Loc), WD D A H0 (mdW a cA (upA σ 5 k x)) H1 locs1 → W p l e R s m args below meth c H1 locs1 cells slots Q (F0 m (pc + 1) ls rest)) : W p l e R s m args below meth c H locs cells slots Q (F0 m pc ls (.int x :: .int i :: .ref (a 6) :: rest)) := by
  subst hk
  exact gIs K hw 6 5 rfl rfl hin hd (fun H1 locs1 h => kk H1 locs1 h)
theorem lM_7 (K : MC p s m args meth c cc own nL D (mdT cA)) (hw : WD D A H0 (mdW a cA σ) H locs) {i : Int32} {k : Nat} (hin : vp_in i 112) (hk : i.toNatClampNeg = k) (hd : decode cc pc = .ok (.iaload, 1)) (kk : W p l e R s m args below meth c H locs cells slots Q (F0 m (pc + 1) ls (.int (σ.2.1 6 k) :: rest))) : W p l e R s m args below meth c H locs cells slots Q (F0 m pc ls (.int i :: .ref (a 7) :: rest)) := gIl K hw 7 6 rfl rfl hin hd (by rw [hk]; exact kk)
theorem sM_7 (K : MC p s m args meth c cc own nL D (mdT cA)) (hw : WD D A H0 (mdW a cA σ) H locs) {i : Int32} {x : Int32} {k : Nat} (hin : vp_in i 112) (hk : i.toNatClampNeg = k) (hd : decode cc pc = .ok (.iastore, 1)) (kk : ∀ (H1 : Heap) (locs1 : List Loc), WD D A H0 (mdW a cA (upA σ 6 k x)) H1 locs1 → W p l e R s m args below meth c H1 locs1 cells slots Q (F0 m (pc + 1) ls rest)) : W p l e R s m args below meth c H locs cells slots Q (F0 m pc ls (.int x :: .int i :: .ref (a 7) :: rest)) := by
  subst hk
  exact gIs K hw 7 6 rfl rfl hin hd (fun H1 locs1 h => kk H1 locs1 h)
theorem lM_8 (K : MC p s m args meth c cc own nL D (mdT cA)) (hw : WD D A H0 (mdW a cA σ) H locs) {i : Int32} {k : Nat} (hin : vp_in i 4096) (hk : i.toNatClampNeg = k) (hd : decode cc pc = .ok (.baload, 1)) (kk : W p l e R s m args below meth c H locs cells slots Q (F0 m (pc + 1) ls (.int (σ.2.1 7 k) :: rest))) : W p l e R s m args below meth c H locs cells slots Q (F0 m pc ls (.int i :: .ref (a 8) :: rest)) := gBl K hw 8 7 rfl rfl hin hd (by rw [hk]; exact kk)
theorem sM_8 (K : MC p s m args meth c cc own nL D (mdT cA)) (hw : WD D A H0 (mdW a cA σ) H locs) {i : Int32} {x : Int32} {k : Nat} (hin : vp_in i 4096) (hk : i.toNatClampNeg = k) (hd : decode cc pc = .ok (.bastore, 1)) (kk : ∀ (H1 : Heap) (locs1 : List Loc), WD D A H0 (mdW a cA (upA σ 7 k (vp_nar .byte x))) H1 locs1 → W p l e R s m args below meth c H1 locs1 cells slots Q (F0 m (pc + 1) ls rest)) : W p l e R s m args below meth c H locs cells slots Q (F0 m pc ls (.int x :: .int i :: .ref (a 8) :: rest)) := by
  subst hk
  exact gBs K hw 8 7 rfl rfl hin hd (fun H1 locs1 h => kk H1 locs1 h)
end KitW
end
section
section KitS
variable {p : Program} {l : Launch} {e : Env} {R : Room} {s : State} {m : MethodId} {args : Array Value} {below : List Frame} {meth : Method} {c : Code} {H : Heap} {locs : List Loc} {cells slots : Nat} {Q : State → Prop} {cc : ByteArray} {pc : Nat} {ls : Array Slot} {rest : List Value} {own : String} {nL : Nat} {D : va_G} {tys : List (ClassId × FieldType)} {A : Nat → Prop} {H0 : Heap} {a : Nat → Nat} {cA : Nat → ClassId} {σ : PS}
theorem sw_t (K : MC p s m args meth c cc own nL D tys) {dflt lo hi : Int} {offs : Array Int} {len : Nat} {x k : Int32} {tgt : Nat} (hd : decode cc pc = .ok (.tableswitch dflt lo hi offs, len)) (h1 : ¬ k.toInt < lo ∧ ¬ hi < k.toInt) (h2 : offs[(k.toInt - lo).toNat]? = some ((tgt : Int) - (pc : Int))) (kt : x = k → W p l e R s m args below meth c H locs cells slots Q (F0 m tgt ls rest)) (kf : ¬ x = k → W p l e R s m args below meth c H locs cells slots Q (F0 m pc ls (.int x :: rest))) : W p l e R s m args below meth c H locs cells slots Q (F0 m pc ls (.int x :: rest)) := by
  by_cases h : x = k
  · subst h
    exact lv_tableIn K.1 K.2.1 hd h1.1 h1.2 h2 (by omega) (kt rfl)
  · exact kf h
theorem sw_l (K : MC p s m args meth c cc own nL D tys) {dflt : Int} {ps : Array (Int × Int)} {len : Nat} {x k : Int32} {tgt : Nat} (hd : decode cc pc = .ok (.lookupswitch dflt ps, len)) (hp : (ps.toList.zip (ps.toList.drop 1)).all (fun (a, next) => a.1 < next.1) = true) (ho : Op.lookupswitch.offset ps.toList dflt k.toInt = (tgt : Int) - (pc : Int)) (kt : x = k → W p l e R s m args below meth c H locs cells slots Q (F0 m tgt ls rest)) (kf : ¬ x = k → W p l e R s m args below meth c H locs cells slots Q (F0 m pc ls (.int x :: rest))) : W p l e R s m args below meth c H locs cells slots Q (F0 m pc ls (.int x :: rest)) := by
  by_cases h : x = k
  · subst h
    exact lv_lookup K.1 K.2.1 hd hp ho (by omega) (kt rfl)
  · exact kf h
theorem nmD (hw : WD D A H0 (pdW a cA σ) H locs) : ∃ z : PS, z = σ ∧ WD D A H0 (pdW a cA z) H locs := ⟨_, rfl, hw⟩
theorem nmM (hw : WD D A H0 (mdW a cA σ) H locs) : ∃ z : PS, z = σ ∧ WD D A H0 (mdW a cA z) H locs := ⟨_, rfl, hw⟩
theorem vp_lt {i : Int32} {n : Nat} (h : vp_in i n) : i.toNatClampNeg < n := Nat.lt_of_not_le (fun q => h (Or.inr q))
theorem lD_15n (K : MC p s m args meth c cc own nL D (pdT cA)) (hw : WD D A H0 (pdW a cA σ) H locs) {i : Int32} (hin : vp_in i 16) (hd : decode cc pc = .ok (.aaload, 1)) (kk : ∀ j : Nat, j = i.toNatClampNeg → j < 16 → W p l e R s m args below meth c H locs cells slots Q (F0 m (pc + 1) ls (.ref (a (25 + j)) :: rest))) : W p l e R s m args below meth c H locs cells slots Q (F0 m pc ls (.int i :: .ref (a 15) :: rest)) := lD_15 K hw hin hd (kk _ rfl (vp_lt hin))
end KitS
theorem cl_0 : Int32.toNatClampNeg 0 = 0 := by decide
theorem vi_0 {n : Nat} (h : 0 < n) : vp_in 0 n := fun q => by rcases q with q | q; exact absurd q (by decide); rw [cl_0] at q; omega
theorem cl_1 : Int32.toNatClampNeg 1 = 1 := by decide
theorem vi_1 {n : Nat} (h : 1 < n) : vp_in 1 n := fun q => by rcases q with q | q; exact absurd q (by decide); rw [cl_1] at q; omega
theorem cl_2 : Int32.toNatClampNeg 2 = 2 := by decide
theorem vi_2 {n : Nat} (h : 2 < n) : vp_in 2 n := fun q => by rcases q with q | q; exact absurd q (by decide); rw [cl_2] at q; omega
theorem cl_3 : Int32.toNatClampNeg 3 = 3 := by decide
theorem vi_3 {n : Nat} (h : 3 < n) : vp_in 3 n := fun q => by rcases q with q | q; exact absurd q (by decide); rw [cl_3] at q; omega
theorem cl_4 : Int32.toNatClampNeg 4 = 4 := by decide
theorem vi_4 {n : Nat} (h : 4 < n) : vp_in 4 n := fun q => by rcases q with q | q; exact absurd q (by decide); rw [cl_4] at q; omega
theorem cl_5 : Int32.toNatClampNeg 5 = 5 := by decide
theorem vi_5 {n : Nat} (h : 5 < n) : vp_in 5 n := fun q => by rcases q with q | q; exact absurd q (by decide); rw [cl_5] at q; omega
theorem cl_6 : Int32.toNatClampNeg 6 = 6 := by decide
theorem vi_6 {n : Nat} (h : 6 < n) : vp_in 6 n := fun q => by rcases q with q | q; exact absurd q (by decide); rw [cl_6] at q; omega
theorem cl_7 : Int32.toNatClampNeg 7 = 7 := by decide
theorem vi_7 {n : Nat} (h : 7 < n) : vp_in 7 n := fun q => by rcases q with q | q; exact absurd q (by decide); rw [cl_7] at q; omega
theorem cl_8 : Int32.toNatClampNeg 8 = 8 := by decide
theorem vi_8 {n : Nat} (h : 8 < n) : vp_in 8 n := fun q => by rcases q with q | q; exact absurd q (by decide); rw [cl_8] at q; omega
theorem cl_9 : Int32.toNatClampNeg 9 = 9 := by decide
theorem vi_9 {n : Nat} (h : 9 < n) : vp_in 9 n := fun q => by rcases q with q | q; exact absurd q (by decide); rw [cl_9] at q; omega
theorem cl_10 : Int32.toNatClampNeg 10 = 10 := by decide
theorem vi_10 {n : Nat} (h : 10 < n) : vp_in 10 n := fun q => by rcases q with q | q; exact absurd q (by decide); rw [cl_10] at q; omega
theorem cl_11 : Int32.toNatClampNeg 11 = 11 := by decide
theorem vi_11 {n : Nat} (h : 11 < n) : vp_in 11 n := fun q => by rcases q with q | q; exact absurd q (by decide); rw [cl_11] at q; omega
theorem cl_12 : Int32.toNatClampNeg 12 = 12 := by decide
theorem vi_12 {n : Nat} (h : 12 < n) : vp_in 12 n := fun q => by rcases q with q | q; exact absurd q (by decide); rw [cl_12] at q; omega
theorem cl_13 : Int32.toNatClampNeg 13 = 13 := by decide
theorem vi_13 {n : Nat} (h : 13 < n) : vp_in 13 n := fun q => by rcases q with q | q; exact absurd q (by decide); rw [cl_13] at q; omega
theorem cl_14 : Int32.toNatClampNeg 14 = 14 := by decide
theorem vi_14 {n : Nat} (h : 14 < n) : vp_in 14 n := fun q => by rcases q with q | q; exact absurd q (by decide); rw [cl_14] at q; omega
theorem cl_15 : Int32.toNatClampNeg 15 = 15 := by decide
theorem vi_15 {n : Nat} (h : 15 < n) : vp_in 15 n := fun q => by rcases q with q | q; exact absurd q (by decide); rw [cl_15] at q; omega
theorem cl_16 : Int32.toNatClampNeg 16 = 16 := by decide
theorem vi_16 {n : Nat} (h : 16 < n) : vp_in 16 n := fun q => by rcases q with q | q; exact absurd q (by decide); rw [cl_16] at q; omega
theorem cl_17 : Int32.toNatClampNeg 17 = 17 := by decide
theorem vi_17 {n : Nat} (h : 17 < n) : vp_in 17 n := fun q => by rcases q with q | q; exact absurd q (by decide); rw [cl_17] at q; omega
theorem cl_18 : Int32.toNatClampNeg 18 = 18 := by decide
theorem vi_18 {n : Nat} (h : 18 < n) : vp_in 18 n := fun q => by rcases q with q | q; exact absurd q (by decide); rw [cl_18] at q; omega
theorem cl_19 : Int32.toNatClampNeg 19 = 19 := by decide
theorem vi_19 {n : Nat} (h : 19 < n) : vp_in 19 n := fun q => by rcases q with q | q; exact absurd q (by decide); rw [cl_19] at q; omega
theorem cl_20 : Int32.toNatClampNeg 20 = 20 := by decide
theorem vi_20 {n : Nat} (h : 20 < n) : vp_in 20 n := fun q => by rcases q with q | q; exact absurd q (by decide); rw [cl_20] at q; omega
theorem cl_21 : Int32.toNatClampNeg 21 = 21 := by decide
theorem vi_21 {n : Nat} (h : 21 < n) : vp_in 21 n := fun q => by rcases q with q | q; exact absurd q (by decide); rw [cl_21] at q; omega
theorem cl_22 : Int32.toNatClampNeg 22 = 22 := by decide
theorem vi_22 {n : Nat} (h : 22 < n) : vp_in 22 n := fun q => by rcases q with q | q; exact absurd q (by decide); rw [cl_22] at q; omega
theorem cl_23 : Int32.toNatClampNeg 23 = 23 := by decide
theorem vi_23 {n : Nat} (h : 23 < n) : vp_in 23 n := fun q => by rcases q with q | q; exact absurd q (by decide); rw [cl_23] at q; omega
theorem cl_24 : Int32.toNatClampNeg 24 = 24 := by decide
theorem vi_24 {n : Nat} (h : 24 < n) : vp_in 24 n := fun q => by rcases q with q | q; exact absurd q (by decide); rw [cl_24] at q; omega
theorem cl_25 : Int32.toNatClampNeg 25 = 25 := by decide
theorem vi_25 {n : Nat} (h : 25 < n) : vp_in 25 n := fun q => by rcases q with q | q; exact absurd q (by decide); rw [cl_25] at q; omega
theorem cl_26 : Int32.toNatClampNeg 26 = 26 := by decide
theorem vi_26 {n : Nat} (h : 26 < n) : vp_in 26 n := fun q => by rcases q with q | q; exact absurd q (by decide); rw [cl_26] at q; omega
theorem cl_27 : Int32.toNatClampNeg 27 = 27 := by decide
theorem vi_27 {n : Nat} (h : 27 < n) : vp_in 27 n := fun q => by rcases q with q | q; exact absurd q (by decide); rw [cl_27] at q; omega
theorem cl_28 : Int32.toNatClampNeg 28 = 28 := by decide
theorem vi_28 {n : Nat} (h : 28 < n) : vp_in 28 n := fun q => by rcases q with q | q; exact absurd q (by decide); rw [cl_28] at q; omega
theorem cl_29 : Int32.toNatClampNeg 29 = 29 := by decide
theorem vi_29 {n : Nat} (h : 29 < n) : vp_in 29 n := fun q => by rcases q with q | q; exact absurd q (by decide); rw [cl_29] at q; omega
theorem cl_30 : Int32.toNatClampNeg 30 = 30 := by decide
theorem vi_30 {n : Nat} (h : 30 < n) : vp_in 30 n := fun q => by rcases q with q | q; exact absurd q (by decide); rw [cl_30] at q; omega
theorem cl_31 : Int32.toNatClampNeg 31 = 31 := by decide
theorem vi_31 {n : Nat} (h : 31 < n) : vp_in 31 n := fun q => by rcases q with q | q; exact absurd q (by decide); rw [cl_31] at q; omega
theorem cl_32 : Int32.toNatClampNeg 32 = 32 := by decide
theorem vi_32 {n : Nat} (h : 32 < n) : vp_in 32 n := fun q => by rcases q with q | q; exact absurd q (by decide); rw [cl_32] at q; omega
theorem cl_33 : Int32.toNatClampNeg 33 = 33 := by decide
theorem vi_33 {n : Nat} (h : 33 < n) : vp_in 33 n := fun q => by rcases q with q | q; exact absurd q (by decide); rw [cl_33] at q; omega
theorem cl_34 : Int32.toNatClampNeg 34 = 34 := by decide
theorem vi_34 {n : Nat} (h : 34 < n) : vp_in 34 n := fun q => by rcases q with q | q; exact absurd q (by decide); rw [cl_34] at q; omega
theorem cl_35 : Int32.toNatClampNeg 35 = 35 := by decide
theorem vi_35 {n : Nat} (h : 35 < n) : vp_in 35 n := fun q => by rcases q with q | q; exact absurd q (by decide); rw [cl_35] at q; omega
theorem cl_36 : Int32.toNatClampNeg 36 = 36 := by decide
theorem vi_36 {n : Nat} (h : 36 < n) : vp_in 36 n := fun q => by rcases q with q | q; exact absurd q (by decide); rw [cl_36] at q; omega
theorem cl_37 : Int32.toNatClampNeg 37 = 37 := by decide
theorem vi_37 {n : Nat} (h : 37 < n) : vp_in 37 n := fun q => by rcases q with q | q; exact absurd q (by decide); rw [cl_37] at q; omega
theorem cl_38 : Int32.toNatClampNeg 38 = 38 := by decide
theorem vi_38 {n : Nat} (h : 38 < n) : vp_in 38 n := fun q => by rcases q with q | q; exact absurd q (by decide); rw [cl_38] at q; omega
theorem cl_39 : Int32.toNatClampNeg 39 = 39 := by decide
theorem vi_39 {n : Nat} (h : 39 < n) : vp_in 39 n := fun q => by rcases q with q | q; exact absurd q (by decide); rw [cl_39] at q; omega
theorem cl_40 : Int32.toNatClampNeg 40 = 40 := by decide
theorem vi_40 {n : Nat} (h : 40 < n) : vp_in 40 n := fun q => by rcases q with q | q; exact absurd q (by decide); rw [cl_40] at q; omega
theorem cl_41 : Int32.toNatClampNeg 41 = 41 := by decide
theorem vi_41 {n : Nat} (h : 41 < n) : vp_in 41 n := fun q => by rcases q with q | q; exact absurd q (by decide); rw [cl_41] at q; omega
theorem cl_42 : Int32.toNatClampNeg 42 = 42 := by decide
theorem vi_42 {n : Nat} (h : 42 < n) : vp_in 42 n := fun q => by rcases q with q | q; exact absurd q (by decide); rw [cl_42] at q; omega
theorem cl_43 : Int32.toNatClampNeg 43 = 43 := by decide
theorem vi_43 {n : Nat} (h : 43 < n) : vp_in 43 n := fun q => by rcases q with q | q; exact absurd q (by decide); rw [cl_43] at q; omega
theorem cl_44 : Int32.toNatClampNeg 44 = 44 := by decide
theorem vi_44 {n : Nat} (h : 44 < n) : vp_in 44 n := fun q => by rcases q with q | q; exact absurd q (by decide); rw [cl_44] at q; omega
theorem cl_45 : Int32.toNatClampNeg 45 = 45 := by decide
theorem vi_45 {n : Nat} (h : 45 < n) : vp_in 45 n := fun q => by rcases q with q | q; exact absurd q (by decide); rw [cl_45] at q; omega
theorem cl_46 : Int32.toNatClampNeg 46 = 46 := by decide
theorem vi_46 {n : Nat} (h : 46 < n) : vp_in 46 n := fun q => by rcases q with q | q; exact absurd q (by decide); rw [cl_46] at q; omega
theorem cl_47 : Int32.toNatClampNeg 47 = 47 := by decide
theorem vi_47 {n : Nat} (h : 47 < n) : vp_in 47 n := fun q => by rcases q with q | q; exact absurd q (by decide); rw [cl_47] at q; omega
theorem cl_48 : Int32.toNatClampNeg 48 = 48 := by decide
theorem vi_48 {n : Nat} (h : 48 < n) : vp_in 48 n := fun q => by rcases q with q | q; exact absurd q (by decide); rw [cl_48] at q; omega
theorem cl_49 : Int32.toNatClampNeg 49 = 49 := by decide
theorem vi_49 {n : Nat} (h : 49 < n) : vp_in 49 n := fun q => by rcases q with q | q; exact absurd q (by decide); rw [cl_49] at q; omega
theorem cl_50 : Int32.toNatClampNeg 50 = 50 := by decide
theorem vi_50 {n : Nat} (h : 50 < n) : vp_in 50 n := fun q => by rcases q with q | q; exact absurd q (by decide); rw [cl_50] at q; omega
theorem cl_51 : Int32.toNatClampNeg 51 = 51 := by decide
theorem vi_51 {n : Nat} (h : 51 < n) : vp_in 51 n := fun q => by rcases q with q | q; exact absurd q (by decide); rw [cl_51] at q; omega
theorem cl_52 : Int32.toNatClampNeg 52 = 52 := by decide
theorem vi_52 {n : Nat} (h : 52 < n) : vp_in 52 n := fun q => by rcases q with q | q; exact absurd q (by decide); rw [cl_52] at q; omega
def bxl (k : Nat) : Int := match k with | 4 => 0 | 8 => 0 | 9 => 0 | 26 => 0 | 27 => 0 | 29 => 0 | 30 => 0 | 31 => 0 | 33 => 0 | 35 => 0 | 36 => 0 | 37 => 0 | 38 => 0 | 39 => 0 | 49 => 0 | 50 => 0 | 52 => 0 | 53 => 0 | 62 => 0 | 63 => 0 | 65 => 0 | 66 => 0 | 75 => 0 | 76 => 0 | 78 => 0 | 79 => 0 | _ => -2147483648
def bxh (k : Nat) : Int := match k with | 4 => 1 | 8 => 1 | 9 => 1 | 26 => 1 | 27 => 1 | 29 => 1 | 30 => 20 | 31 => 6000 | 33 => 1 | 35 => 16 | 36 => 15 | 37 => 4095 | 38 => 4096 | 39 => 1 | 49 => 1 | 50 => 1 | 52 => 1 | 53 => 20 | 62 => 1 | 63 => 1 | 65 => 1 | 66 => 20 | 75 => 1 | 76 => 1 | 78 => 1 | 79 => 20 | _ => 2147483647
def Bx (σ : PS) : Prop := ∀ k, bxl k ≤ (σ.1 k).toInt ∧ (σ.1 k).toInt ≤ bxh k
theorem i32r (v : Int32) : -2147483648 ≤ v.toInt ∧ v.toInt ≤ 2147483647 := ⟨Int32.le_toInt v, by have := Int32.toInt_lt v; omega⟩
theorem bxU {σ : PS} {k : Nat} {v : Int32} (h : Bx σ) (h1 : bxl k ≤ v.toInt) (h2 : v.toInt ≤ bxh k) : Bx (upS σ k v) := fun j => by
  by_cases e : j = k
  · subst e; simp only [upS, va_up, if_true]; exact ⟨h1, h2⟩
  · simp only [upS, va_up, if_neg e]; exact h j
theorem bxA {σ : PS} {j i : Nat} {v : Int32} (h : Bx σ) : Bx (upA σ j i v) := h
theorem bxG {σ : PS} {i : Nat} {v : Int64} (h : Bx σ) : Bx (upG σ i v) := h
theorem bxS_0 {σ : PS} {v : Int32} (h : Bx σ) : Bx (upS σ 0 v) := bxU h (i32r v).1 (i32r v).2
theorem bxS_1 {σ : PS} {v : Int32} (h : Bx σ) : Bx (upS σ 1 v) := bxU h (i32r v).1 (i32r v).2
theorem bxS_2 {σ : PS} {v : Int32} (h : Bx σ) : Bx (upS σ 2 v) := bxU h (i32r v).1 (i32r v).2
theorem bxS_3 {σ : PS} {v : Int32} (h : Bx σ) : Bx (upS σ 3 v) := bxU h (i32r v).1 (i32r v).2
theorem bxQ_4 {σ : PS} {v : Int32} (h : Bx σ) (h1 : 0 ≤ v.toInt) (h2 : v.toInt ≤ 1) : Bx (upS σ 4 v) := bxU h h1 h2
theorem bxS_5 {σ : PS} {v : Int32} (h : Bx σ) : Bx (upS σ 5 v) := bxU h (i32r v).1 (i32r v).2
theorem bxS_6 {σ : PS} {v : Int32} (h : Bx σ) : Bx (upS σ 6 v) := bxU h (i32r v).1 (i32r v).2
theorem bxS_7 {σ : PS} {v : Int32} (h : Bx σ) : Bx (upS σ 7 v) := bxU h (i32r v).1 (i32r v).2
theorem bxQ_8 {σ : PS} {v : Int32} (h : Bx σ) (h1 : 0 ≤ v.toInt) (h2 : v.toInt ≤ 1) : Bx (upS σ 8 v) := bxU h h1 h2
theorem bxQ_9 {σ : PS} {v : Int32} (h : Bx σ) (h1 : 0 ≤ v.toInt) (h2 : v.toInt ≤ 1) : Bx (upS σ 9 v) := bxU h h1 h2
theorem bxS_10 {σ : PS} {v : Int32} (h : Bx σ) : Bx (upS σ 10 v) := bxU h (i32r v).1 (i32r v).2
theorem bxS_11 {σ : PS} {v : Int32} (h : Bx σ) : Bx (upS σ 11 v) := bxU h (i32r v).1 (i32r v).2
theorem bxS_12 {σ : PS} {v : Int32} (h : Bx σ) : Bx (upS σ 12 v) := bxU h (i32r v).1 (i32r v).2
theorem bxS_13 {σ : PS} {v : Int32} (h : Bx σ) : Bx (upS σ 13 v) := bxU h (i32r v).1 (i32r v).2
theorem bxS_14 {σ : PS} {v : Int32} (h : Bx σ) : Bx (upS σ 14 v) := bxU h (i32r v).1 (i32r v).2
theorem bxS_15 {σ : PS} {v : Int32} (h : Bx σ) : Bx (upS σ 15 v) := bxU h (i32r v).1 (i32r v).2
theorem bxS_16 {σ : PS} {v : Int32} (h : Bx σ) : Bx (upS σ 16 v) := bxU h (i32r v).1 (i32r v).2
theorem bxS_17 {σ : PS} {v : Int32} (h : Bx σ) : Bx (upS σ 17 v) := bxU h (i32r v).1 (i32r v).2
theorem bxS_18 {σ : PS} {v : Int32} (h : Bx σ) : Bx (upS σ 18 v) := bxU h (i32r v).1 (i32r v).2
theorem bxS_19 {σ : PS} {v : Int32} (h : Bx σ) : Bx (upS σ 19 v) := bxU h (i32r v).1 (i32r v).2
theorem bxS_20 {σ : PS} {v : Int32} (h : Bx σ) : Bx (upS σ 20 v) := bxU h (i32r v).1 (i32r v).2
theorem bxS_21 {σ : PS} {v : Int32} (h : Bx σ) : Bx (upS σ 21 v) := bxU h (i32r v).1 (i32r v).2
theorem bxS_22 {σ : PS} {v : Int32} (h : Bx σ) : Bx (upS σ 22 v) := bxU h (i32r v).1 (i32r v).2
theorem bxS_23 {σ : PS} {v : Int32} (h : Bx σ) : Bx (upS σ 23 v) := bxU h (i32r v).1 (i32r v).2
theorem bxS_24 {σ : PS} {v : Int32} (h : Bx σ) : Bx (upS σ 24 v) := bxU h (i32r v).1 (i32r v).2
theorem bxS_25 {σ : PS} {v : Int32} (h : Bx σ) : Bx (upS σ 25 v) := bxU h (i32r v).1 (i32r v).2
theorem bxQ_26 {σ : PS} {v : Int32} (h : Bx σ) (h1 : 0 ≤ v.toInt) (h2 : v.toInt ≤ 1) : Bx (upS σ 26 v) := bxU h h1 h2
theorem bxQ_27 {σ : PS} {v : Int32} (h : Bx σ) (h1 : 0 ≤ v.toInt) (h2 : v.toInt ≤ 1) : Bx (upS σ 27 v) := bxU h h1 h2
theorem bxS_28 {σ : PS} {v : Int32} (h : Bx σ) : Bx (upS σ 28 v) := bxU h (i32r v).1 (i32r v).2
theorem bxQ_29 {σ : PS} {v : Int32} (h : Bx σ) (h1 : 0 ≤ v.toInt) (h2 : v.toInt ≤ 1) : Bx (upS σ 29 v) := bxU h h1 h2
theorem bxQ_30 {σ : PS} {v : Int32} (h : Bx σ) (h1 : 0 ≤ v.toInt) (h2 : v.toInt ≤ 20) : Bx (upS σ 30 v) := bxU h h1 h2
theorem bxQ_31 {σ : PS} {v : Int32} (h : Bx σ) (h1 : 0 ≤ v.toInt) (h2 : v.toInt ≤ 6000) : Bx (upS σ 31 v) := bxU h h1 h2
theorem bxS_32 {σ : PS} {v : Int32} (h : Bx σ) : Bx (upS σ 32 v) := bxU h (i32r v).1 (i32r v).2
theorem bxQ_33 {σ : PS} {v : Int32} (h : Bx σ) (h1 : 0 ≤ v.toInt) (h2 : v.toInt ≤ 1) : Bx (upS σ 33 v) := bxU h h1 h2
theorem bxS_34 {σ : PS} {v : Int32} (h : Bx σ) : Bx (upS σ 34 v) := bxU h (i32r v).1 (i32r v).2
theorem bxQ_35 {σ : PS} {v : Int32} (h : Bx σ) (h1 : 0 ≤ v.toInt) (h2 : v.toInt ≤ 16) : Bx (upS σ 35 v) := bxU h h1 h2
theorem bxQ_36 {σ : PS} {v : Int32} (h : Bx σ) (h1 : 0 ≤ v.toInt) (h2 : v.toInt ≤ 15) : Bx (upS σ 36 v) := bxU h h1 h2
theorem bxQ_37 {σ : PS} {v : Int32} (h : Bx σ) (h1 : 0 ≤ v.toInt) (h2 : v.toInt ≤ 4095) : Bx (upS σ 37 v) := bxU h h1 h2
theorem bxQ_38 {σ : PS} {v : Int32} (h : Bx σ) (h1 : 0 ≤ v.toInt) (h2 : v.toInt ≤ 4096) : Bx (upS σ 38 v) := bxU h h1 h2
theorem bxQ_39 {σ : PS} {v : Int32} (h : Bx σ) (h1 : 0 ≤ v.toInt) (h2 : v.toInt ≤ 1) : Bx (upS σ 39 v) := bxU h h1 h2
theorem bxS_40 {σ : PS} {v : Int32} (h : Bx σ) : Bx (upS σ 40 v) := bxU h (i32r v).1 (i32r v).2
theorem bxS_41 {σ : PS} {v : Int32} (h : Bx σ) : Bx (upS σ 41 v) := bxU h (i32r v).1 (i32r v).2
theorem bxS_42 {σ : PS} {v : Int32} (h : Bx σ) : Bx (upS σ 42 v) := bxU h (i32r v).1 (i32r v).2
theorem bxS_43 {σ : PS} {v : Int32} (h : Bx σ) : Bx (upS σ 43 v) := bxU h (i32r v).1 (i32r v).2
theorem bxS_44 {σ : PS} {v : Int32} (h : Bx σ) : Bx (upS σ 44 v) := bxU h (i32r v).1 (i32r v).2
theorem bxS_45 {σ : PS} {v : Int32} (h : Bx σ) : Bx (upS σ 45 v) := bxU h (i32r v).1 (i32r v).2
theorem bxS_46 {σ : PS} {v : Int32} (h : Bx σ) : Bx (upS σ 46 v) := bxU h (i32r v).1 (i32r v).2
theorem bxS_47 {σ : PS} {v : Int32} (h : Bx σ) : Bx (upS σ 47 v) := bxU h (i32r v).1 (i32r v).2
theorem bxS_48 {σ : PS} {v : Int32} (h : Bx σ) : Bx (upS σ 48 v) := bxU h (i32r v).1 (i32r v).2
theorem bxQ_49 {σ : PS} {v : Int32} (h : Bx σ) (h1 : 0 ≤ v.toInt) (h2 : v.toInt ≤ 1) : Bx (upS σ 49 v) := bxU h h1 h2
theorem bxQ_50 {σ : PS} {v : Int32} (h : Bx σ) (h1 : 0 ≤ v.toInt) (h2 : v.toInt ≤ 1) : Bx (upS σ 50 v) := bxU h h1 h2
theorem bxS_51 {σ : PS} {v : Int32} (h : Bx σ) : Bx (upS σ 51 v) := bxU h (i32r v).1 (i32r v).2
theorem bxQ_52 {σ : PS} {v : Int32} (h : Bx σ) (h1 : 0 ≤ v.toInt) (h2 : v.toInt ≤ 1) : Bx (upS σ 52 v) := bxU h h1 h2
theorem bxQ_53 {σ : PS} {v : Int32} (h : Bx σ) (h1 : 0 ≤ v.toInt) (h2 : v.toInt ≤ 20) : Bx (upS σ 53 v) := bxU h h1 h2
theorem bxS_54 {σ : PS} {v : Int32} (h : Bx σ) : Bx (upS σ 54 v) := bxU h (i32r v).1 (i32r v).2
theorem bxS_55 {σ : PS} {v : Int32} (h : Bx σ) : Bx (upS σ 55 v) := bxU h (i32r v).1 (i32r v).2
theorem bxS_56 {σ : PS} {v : Int32} (h : Bx σ) : Bx (upS σ 56 v) := bxU h (i32r v).1 (i32r v).2
theorem bxS_57 {σ : PS} {v : Int32} (h : Bx σ) : Bx (upS σ 57 v) := bxU h (i32r v).1 (i32r v).2
theorem bxS_58 {σ : PS} {v : Int32} (h : Bx σ) : Bx (upS σ 58 v) := bxU h (i32r v).1 (i32r v).2
theorem bxS_59 {σ : PS} {v : Int32} (h : Bx σ) : Bx (upS σ 59 v) := bxU h (i32r v).1 (i32r v).2
theorem bxS_60 {σ : PS} {v : Int32} (h : Bx σ) : Bx (upS σ 60 v) := bxU h (i32r v).1 (i32r v).2
theorem bxS_61 {σ : PS} {v : Int32} (h : Bx σ) : Bx (upS σ 61 v) := bxU h (i32r v).1 (i32r v).2
theorem bxQ_62 {σ : PS} {v : Int32} (h : Bx σ) (h1 : 0 ≤ v.toInt) (h2 : v.toInt ≤ 1) : Bx (upS σ 62 v) := bxU h h1 h2
theorem bxQ_63 {σ : PS} {v : Int32} (h : Bx σ) (h1 : 0 ≤ v.toInt) (h2 : v.toInt ≤ 1) : Bx (upS σ 63 v) := bxU h h1 h2
theorem bxS_64 {σ : PS} {v : Int32} (h : Bx σ) : Bx (upS σ 64 v) := bxU h (i32r v).1 (i32r v).2
theorem bxQ_65 {σ : PS} {v : Int32} (h : Bx σ) (h1 : 0 ≤ v.toInt) (h2 : v.toInt ≤ 1) : Bx (upS σ 65 v) := bxU h h1 h2
theorem bxQ_66 {σ : PS} {v : Int32} (h : Bx σ) (h1 : 0 ≤ v.toInt) (h2 : v.toInt ≤ 20) : Bx (upS σ 66 v) := bxU h h1 h2
theorem bxS_67 {σ : PS} {v : Int32} (h : Bx σ) : Bx (upS σ 67 v) := bxU h (i32r v).1 (i32r v).2
theorem bxS_68 {σ : PS} {v : Int32} (h : Bx σ) : Bx (upS σ 68 v) := bxU h (i32r v).1 (i32r v).2
theorem bxS_69 {σ : PS} {v : Int32} (h : Bx σ) : Bx (upS σ 69 v) := bxU h (i32r v).1 (i32r v).2
theorem bxS_70 {σ : PS} {v : Int32} (h : Bx σ) : Bx (upS σ 70 v) := bxU h (i32r v).1 (i32r v).2
theorem bxS_71 {σ : PS} {v : Int32} (h : Bx σ) : Bx (upS σ 71 v) := bxU h (i32r v).1 (i32r v).2
theorem bxS_72 {σ : PS} {v : Int32} (h : Bx σ) : Bx (upS σ 72 v) := bxU h (i32r v).1 (i32r v).2
theorem bxS_73 {σ : PS} {v : Int32} (h : Bx σ) : Bx (upS σ 73 v) := bxU h (i32r v).1 (i32r v).2
theorem bxS_74 {σ : PS} {v : Int32} (h : Bx σ) : Bx (upS σ 74 v) := bxU h (i32r v).1 (i32r v).2
theorem bxQ_75 {σ : PS} {v : Int32} (h : Bx σ) (h1 : 0 ≤ v.toInt) (h2 : v.toInt ≤ 1) : Bx (upS σ 75 v) := bxU h h1 h2
theorem bxQ_76 {σ : PS} {v : Int32} (h : Bx σ) (h1 : 0 ≤ v.toInt) (h2 : v.toInt ≤ 1) : Bx (upS σ 76 v) := bxU h h1 h2
theorem bxS_77 {σ : PS} {v : Int32} (h : Bx σ) : Bx (upS σ 77 v) := bxU h (i32r v).1 (i32r v).2
theorem bxQ_78 {σ : PS} {v : Int32} (h : Bx σ) (h1 : 0 ≤ v.toInt) (h2 : v.toInt ≤ 1) : Bx (upS σ 78 v) := bxU h h1 h2
theorem bxQ_79 {σ : PS} {v : Int32} (h : Bx σ) (h1 : 0 ≤ v.toInt) (h2 : v.toInt ≤ 20) : Bx (upS σ 79 v) := bxU h h1 h2
theorem bxg_4 {σ : PS} (h : Bx σ) : 0 ≤ (σ.1 4).toInt ∧ (σ.1 4).toInt ≤ 1 := h 4
theorem bxg_8 {σ : PS} (h : Bx σ) : 0 ≤ (σ.1 8).toInt ∧ (σ.1 8).toInt ≤ 1 := h 8
theorem bxg_9 {σ : PS} (h : Bx σ) : 0 ≤ (σ.1 9).toInt ∧ (σ.1 9).toInt ≤ 1 := h 9
theorem bxg_26 {σ : PS} (h : Bx σ) : 0 ≤ (σ.1 26).toInt ∧ (σ.1 26).toInt ≤ 1 := h 26
theorem bxg_27 {σ : PS} (h : Bx σ) : 0 ≤ (σ.1 27).toInt ∧ (σ.1 27).toInt ≤ 1 := h 27
theorem bxg_29 {σ : PS} (h : Bx σ) : 0 ≤ (σ.1 29).toInt ∧ (σ.1 29).toInt ≤ 1 := h 29
theorem bxg_30 {σ : PS} (h : Bx σ) : 0 ≤ (σ.1 30).toInt ∧ (σ.1 30).toInt ≤ 20 := h 30
theorem bxg_31 {σ : PS} (h : Bx σ) : 0 ≤ (σ.1 31).toInt ∧ (σ.1 31).toInt ≤ 6000 := h 31
theorem bxg_33 {σ : PS} (h : Bx σ) : 0 ≤ (σ.1 33).toInt ∧ (σ.1 33).toInt ≤ 1 := h 33
theorem bxg_35 {σ : PS} (h : Bx σ) : 0 ≤ (σ.1 35).toInt ∧ (σ.1 35).toInt ≤ 16 := h 35
theorem bxg_36 {σ : PS} (h : Bx σ) : 0 ≤ (σ.1 36).toInt ∧ (σ.1 36).toInt ≤ 15 := h 36
theorem bxg_37 {σ : PS} (h : Bx σ) : 0 ≤ (σ.1 37).toInt ∧ (σ.1 37).toInt ≤ 4095 := h 37
theorem bxg_38 {σ : PS} (h : Bx σ) : 0 ≤ (σ.1 38).toInt ∧ (σ.1 38).toInt ≤ 4096 := h 38
theorem bxg_39 {σ : PS} (h : Bx σ) : 0 ≤ (σ.1 39).toInt ∧ (σ.1 39).toInt ≤ 1 := h 39
theorem bxg_49 {σ : PS} (h : Bx σ) : 0 ≤ (σ.1 49).toInt ∧ (σ.1 49).toInt ≤ 1 := h 49
theorem bxg_50 {σ : PS} (h : Bx σ) : 0 ≤ (σ.1 50).toInt ∧ (σ.1 50).toInt ≤ 1 := h 50
theorem bxg_52 {σ : PS} (h : Bx σ) : 0 ≤ (σ.1 52).toInt ∧ (σ.1 52).toInt ≤ 1 := h 52
theorem bxg_53 {σ : PS} (h : Bx σ) : 0 ≤ (σ.1 53).toInt ∧ (σ.1 53).toInt ≤ 20 := h 53
theorem bxg_62 {σ : PS} (h : Bx σ) : 0 ≤ (σ.1 62).toInt ∧ (σ.1 62).toInt ≤ 1 := h 62
theorem bxg_63 {σ : PS} (h : Bx σ) : 0 ≤ (σ.1 63).toInt ∧ (σ.1 63).toInt ≤ 1 := h 63
theorem bxg_65 {σ : PS} (h : Bx σ) : 0 ≤ (σ.1 65).toInt ∧ (σ.1 65).toInt ≤ 1 := h 65
theorem bxg_66 {σ : PS} (h : Bx σ) : 0 ≤ (σ.1 66).toInt ∧ (σ.1 66).toInt ≤ 20 := h 66
theorem bxg_75 {σ : PS} (h : Bx σ) : 0 ≤ (σ.1 75).toInt ∧ (σ.1 75).toInt ≤ 1 := h 75
theorem bxg_76 {σ : PS} (h : Bx σ) : 0 ≤ (σ.1 76).toInt ∧ (σ.1 76).toInt ≤ 1 := h 76
theorem bxg_78 {σ : PS} (h : Bx σ) : 0 ≤ (σ.1 78).toInt ∧ (σ.1 78).toInt ≤ 1 := h 78
theorem bxg_79 {σ : PS} (h : Bx σ) : 0 ≤ (σ.1 79).toInt ∧ (σ.1 79).toInt ≤ 20 := h 79
theorem bxI {P : PS → Prop} {c : Prop} [Decidable c] {x y : PS} (h1 : c → P x) (h2 : ¬ c → P y) : P (if c then x else y) := by
  by_cases h : c
  · rw [if_pos h]; exact h1 h
  · rw [if_neg h]; exact h2 h
theorem bxI2 {P : PS → Prop} {c : Prop} [Decidable c] {x y : PS × Int32} (h1 : c → P x.1) (h2 : ¬ c → P y.1) : P (if c then x else y).1 := by
  by_cases h : c
  · rw [if_pos h]; exact h1 h
  · rw [if_neg h]; exact h2 h
def NZ (v : Int32) : Prop := narrow .boolean (.int v) = .int v
theorem nz0 : NZ 0 := rfl
theorem nz1 : NZ 1 := rfl
theorem nzI {c : Prop} [Decidable c] {x y : Int32} (h1 : NZ x) (h2 : NZ y) : NZ (if c then x else y) := by
  by_cases h : c
  · rw [if_pos h]; exact h1
  · rw [if_neg h]; exact h2
theorem nzI2 {c : Prop} [Decidable c] {x y : PS × Int32} (h1 : NZ x.2) (h2 : NZ y.2) : NZ (if c then x else y).2 := by
  by_cases h : c
  · rw [if_pos h]; exact h1
  · rw [if_neg h]; exact h2
theorem i32add {a b : Int32} (h1 : -2147483648 ≤ a.toInt + b.toInt) (h2 : a.toInt + b.toInt ≤ 2147483647) : (a + b).toInt = a.toInt + b.toInt := by
  rw [Int32.toInt_add, Int.bmod_def]
  split <;> omega
theorem i32sub {a b : Int32} (h1 : -2147483648 ≤ a.toInt - b.toInt) (h2 : a.toInt - b.toInt ≤ 2147483647) : (a - b).toInt = a.toInt - b.toInt := by
  rw [Int32.toInt_sub, Int.bmod_def]
  split <;> omega
theorem i32mul {a b : Int32} (h1 : -2147483648 ≤ a.toInt * b.toInt) (h2 : a.toInt * b.toInt ≤ 2147483647) : (a * b).toInt = a.toInt * b.toInt := by
  rw [Int32.toInt_mul, Int.bmod_def]
  split <;> omega
theorem vB1 {i N : Int32} (n : Nat) (h0 : 0 ≤ i.toInt) (h : ¬ N ≤ i) (hN : N.toInt = (n : Int)) : vp_in i n := by
  refine vp_in_iff.mpr ⟨h0, ?_⟩
  rw [Int32.le_iff_toInt_le] at h
  omega
theorem vB2 {i : Int32} (n : Nat) {b : Int} (h : 0 ≤ i.toInt ∧ i.toInt ≤ b) (hn : b < n) : vp_in i n := vp_in_iff.mpr ⟨h.1, by omega⟩
theorem vRem {x N : Int32} (n : Nat) (h : 0 ≤ x.toInt) (hN : N.toInt = (n : Int)) (hn : 0 < n) : vp_in (x - x / N * N) n := by
  refine vp_in_iff.mpr ?_
  rw [rem_toInt, hN]
  exact ⟨Int.tmod_nonneg _ h, Int.tmod_lt_of_pos _ (by omega)⟩
theorem nzB {v : Int32} (h : 0 ≤ v.toInt ∧ v.toInt ≤ 1) : narrow .boolean (.int v) = .int v := by
  have : v = 0 ∨ v = 1 := by
    rcases (show v.toInt = 0 ∨ v.toInt = 1 by omega) with q | q
    · exact Or.inl (Int32.toInt_inj.mp (by rw [q]; rfl))
    · exact Or.inr (Int32.toInt_inj.mp (by rw [q]; rfl))
  rcases this with rfl | rfl <;> rfl
theorem fzB {v : Int32} (h : 0 ≤ v.toInt ∧ v.toInt ≤ 1) : fits .boolean (.int v) = true := by
  have : v = 0 ∨ v = 1 := by
    rcases (show v.toInt = 0 ∨ v.toInt = 1 by omega) with q | q
    · exact Or.inl (Int32.toInt_inj.mp (by rw [q]; rfl))
    · exact Or.inr (Int32.toInt_inj.mp (by rw [q]; rfl))
  rcases this with rfl | rfl <;> rfl
end
section
def f_X4_isSize (x0 : Int64) : Int32 := (if x0 = 1 then 1 else (if x0 = 2 then 1 else (if x0 = 3 then 1 else (if x0 = 6 then 1 else (if x0 = 26 then 1 else 0)))))
abbrev rm_X4_isSize : Room := { frames := 0, cells := 0, slots := 0, locals := 0 }
theorem nz_X4_isSize {x0 : Int64} : NZ (f_X4_isSize x0) := (nzI nz1 (nzI nz1 (nzI nz1 (nzI nz1 (nzI nz1 nz0)))))
set_option maxHeartbeats 4000000 in
set_option maxRecDepth 100000 in
theorem c_X4_isSize (l : Launch) (D : va_G) (a : Nat → Nat) (cA : Nat → ClassId) (σ0 : PS) (x0 : Int64) : CI l yX4_isSize cX4_isSize 2 .boolean rm_X4_isSize D (pdT cA) [.long x0] (pdW a cA σ0) (pdW a cA σ0) (f_X4_isSize x0) := by
  refine en_i (by decide) (Nat.le_of_ble_eq_true rfl) nz_X4_isSize ?_
  intro p e s m args below meth c A ls Q K hw hl ret
  have hl : lv_has ls 2 [(0, .long x0)] := hl
  refine lv_lload_n K.1 K.2.1 dX4_isSize_0 rfl (lv_at hl 0 rfl) ?_
  refine lv_lconst (v := 1) K.1 K.2.1 dX4_isSize_1 (by decide) ?_
  refine lc_eq (tgt := 38) K dX4_isSize_2 dX4_isSize_3 (by decide) (fun c2 => ?_) (fun c2 => ?_)
  · refine lv_iconst (v := 1) K.1 K.2.1 dX4_isSize_38 (by decide) ?_
    refine lv_goto (tgt := 43) K.1 K.2.1 dX4_isSize_39 (by decide) ?_
    exact ret rfl (by exact (Eq.trans (if_pos c2) rfl)) hw dX4_isSize_43
  · refine lv_lload_n K.1 K.2.1 dX4_isSize_6 rfl (lv_at hl 0 rfl) ?_
    refine lv_ldc2 K.1 K.2.1 K.2.2.2.1 (K.2.2.1 _ kc_X4_7) dX4_isSize_7 ?_
    refine lc_eq (tgt := 38) K dX4_isSize_10 dX4_isSize_11 (by decide) (fun c10 => ?_) (fun c10 => ?_)
    · refine lv_iconst (v := 1) K.1 K.2.1 dX4_isSize_38 (by decide) ?_
      refine lv_goto (tgt := 43) K.1 K.2.1 dX4_isSize_39 (by decide) ?_
      exact ret rfl (by exact (Eq.trans (if_neg c2) (Eq.trans (if_pos c10) rfl))) hw dX4_isSize_43
    · refine lv_lload_n K.1 K.2.1 dX4_isSize_14 rfl (lv_at hl 0 rfl) ?_
      refine lv_ldc2 K.1 K.2.1 K.2.2.2.1 (K.2.2.1 _ kc_X4_9) dX4_isSize_15 ?_
      refine lc_eq (tgt := 38) K dX4_isSize_18 dX4_isSize_19 (by decide) (fun c18 => ?_) (fun c18 => ?_)
      · refine lv_iconst (v := 1) K.1 K.2.1 dX4_isSize_38 (by decide) ?_
        refine lv_goto (tgt := 43) K.1 K.2.1 dX4_isSize_39 (by decide) ?_
        exact ret rfl (by exact (Eq.trans (if_neg c2) (Eq.trans (if_neg c10) (Eq.trans (if_pos c18) rfl)))) hw dX4_isSize_43
      · refine lv_lload_n K.1 K.2.1 dX4_isSize_22 rfl (lv_at hl 0 rfl) ?_
        refine lv_ldc2 K.1 K.2.1 K.2.2.2.1 (K.2.2.1 _ kc_X4_11) dX4_isSize_23 ?_
        refine lc_eq (tgt := 38) K dX4_isSize_26 dX4_isSize_27 (by decide) (fun c26 => ?_) (fun c26 => ?_)
        · refine lv_iconst (v := 1) K.1 K.2.1 dX4_isSize_38 (by decide) ?_
          refine lv_goto (tgt := 43) K.1 K.2.1 dX4_isSize_39 (by decide) ?_
          exact ret rfl (by exact (Eq.trans (if_neg c2) (Eq.trans (if_neg c10) (Eq.trans (if_neg c18) (Eq.trans (if_pos c26) rfl))))) hw dX4_isSize_43
        · refine lv_lload_n K.1 K.2.1 dX4_isSize_30 rfl (lv_at hl 0 rfl) ?_
          refine lv_ldc2 K.1 K.2.1 K.2.2.2.1 (K.2.2.1 _ kc_X4_13) dX4_isSize_31 ?_
          refine lc_ne (tgt := 42) K dX4_isSize_34 dX4_isSize_35 (by decide) (fun c34 => ?_) (fun c34 => ?_)
          · refine lv_iconst (v := 0) K.1 K.2.1 dX4_isSize_42 (by decide) ?_
            exact ret rfl (by exact (Eq.trans (if_neg c2) (Eq.trans (if_neg c10) (Eq.trans (if_neg c18) (Eq.trans (if_neg c26) (Eq.trans (if_neg c34) rfl)))))) hw dX4_isSize_43
          · refine lv_iconst (v := 1) K.1 K.2.1 dX4_isSize_38 (by decide) ?_
            refine lv_goto (tgt := 43) K.1 K.2.1 dX4_isSize_39 (by decide) ?_
            exact ret rfl (by exact (Eq.trans (if_neg c2) (Eq.trans (if_neg c10) (Eq.trans (if_neg c18) (Eq.trans (if_neg c26) (Eq.trans (if_pos c34) rfl)))))) hw dX4_isSize_43
def f_X4_shortSide (σ0 : PS) : Int32 := (if (σ0.1 13) = 1 then 52200 else (if (σ0.1 13) = 6 then 79200 else (if (σ0.1 13) = 26 then 59528 else 61200)))
abbrev rm_X4_shortSide : Room := { frames := 0, cells := 0, slots := 0, locals := 0 }
set_option maxHeartbeats 4000000 in
set_option maxRecDepth 100000 in
theorem c_X4_shortSide (l : Launch) (D : va_G) (a : Nat → Nat) (cA : Nat → ClassId) (σ0 : PS) : CI l yX4_shortSide cX4_shortSide 1 .int rm_X4_shortSide D (pdT cA) [.ref (a 2)] (pdW a cA σ0) (pdW a cA σ0) (f_X4_shortSide σ0) := by
  refine en_i (by decide) (Nat.le_of_ble_eq_true rfl) rfl ?_
  intro p e s m args below meth c A ls Q K hw hl ret
  have hl : lv_has ls 1 [(0, .ref (a 2))] := hl
  refine lv_aload_n K.1 K.2.1 dX4_shortSide_0 rfl (lv_at hl 0 rfl) ?_
  refine gD_2_0 K hw kf_X4_15 dX4_shortSide_1 ?_
  refine sw_l K dX4_shortSide_4 (k := 1) (tgt := 40) (by decide) (by decide) (fun c4_1 => ?_) (fun c4_1 => ?_)
  · refine lv_ldc K.1 K.2.1 K.2.2.2.1 (K.2.2.1 _ kc_X4_37) dX4_shortSide_40 ?_
    exact ret rfl (by exact (Eq.trans (if_pos c4_1) rfl)) hw dX4_shortSide_42
  · refine sw_l K dX4_shortSide_4 (k := 6) (tgt := 43) (by decide) (by decide) (fun c4_6 => ?_) (fun c4_6 => ?_)
    · refine lv_ldc K.1 K.2.1 K.2.2.2.1 (K.2.2.1 _ kc_X4_38) dX4_shortSide_43 ?_
      exact ret rfl (by exact (Eq.trans (if_neg c4_1) (Eq.trans (if_pos c4_6) rfl))) hw dX4_shortSide_45
    · refine sw_l K dX4_shortSide_4 (k := 26) (tgt := 46) (by decide) (by decide) (fun c4_26 => ?_) (fun c4_26 => ?_)
      · refine lv_ldc K.1 K.2.1 K.2.2.2.1 (K.2.2.1 _ kc_X4_39) dX4_shortSide_46 ?_
        exact ret rfl (by exact (Eq.trans (if_neg c4_1) (Eq.trans (if_neg c4_6) (Eq.trans (if_pos c4_26) rfl)))) hw dX4_shortSide_48
      · refine lv_lookup (tgt := 49) (off := 45) K.1 K.2.1 dX4_shortSide_4 (by decide) (by show Op.lookupswitch.offset [(1, 36), (6, 39), (26, 42)] 45 _ = 45; rw [lv_osw c4_1 (a := 1) rfl, lv_osw c4_6 (a := 6) rfl, lv_osw c4_26 (a := 26) rfl]; rfl) (by decide) ?_
        refine lv_ldc K.1 K.2.1 K.2.2.2.1 (K.2.2.1 _ kc_X4_40) dX4_shortSide_49 ?_
        exact ret rfl (by exact (Eq.trans (if_neg c4_1) (Eq.trans (if_neg c4_6) (Eq.trans (if_neg c4_26) rfl)))) hw dX4_shortSide_51
def f_X4_longSide (σ0 : PS) : Int32 := (if (σ0.1 13) = 1 then 75600 else (if (σ0.1 13) = 3 then 100800 else (if (σ0.1 13) = 6 then 122400 else (if (σ0.1 13) = 26 then 84189 else 79200))))
abbrev rm_X4_longSide : Room := { frames := 0, cells := 0, slots := 0, locals := 0 }
set_option maxHeartbeats 4000000 in
set_option maxRecDepth 100000 in
theorem c_X4_longSide (l : Launch) (D : va_G) (a : Nat → Nat) (cA : Nat → ClassId) (σ0 : PS) : CI l yX4_longSide cX4_longSide 1 .int rm_X4_longSide D (pdT cA) [.ref (a 2)] (pdW a cA σ0) (pdW a cA σ0) (f_X4_longSide σ0) := by
  refine en_i (by decide) (Nat.le_of_ble_eq_true rfl) rfl ?_
  intro p e s m args below meth c A ls Q K hw hl ret
  have hl : lv_has ls 1 [(0, .ref (a 2))] := hl
  refine lv_aload_n K.1 K.2.1 dX4_longSide_0 rfl (lv_at hl 0 rfl) ?_
  refine gD_2_0 K hw kf_X4_15 dX4_longSide_1 ?_
  refine sw_l K dX4_longSide_4 (k := 1) (tgt := 48) (by decide) (by decide) (fun c4_1 => ?_) (fun c4_1 => ?_)
  · refine lv_ldc K.1 K.2.1 K.2.2.2.1 (K.2.2.1 _ kc_X4_41) dX4_longSide_48 ?_
    exact ret rfl (by exact (Eq.trans (if_pos c4_1) rfl)) hw dX4_longSide_50
  · refine sw_l K dX4_longSide_4 (k := 3) (tgt := 51) (by decide) (by decide) (fun c4_3 => ?_) (fun c4_3 => ?_)
    · refine lv_ldc K.1 K.2.1 K.2.2.2.1 (K.2.2.1 _ kc_X4_42) dX4_longSide_51 ?_
      exact ret rfl (by exact (Eq.trans (if_neg c4_1) (Eq.trans (if_pos c4_3) rfl))) hw dX4_longSide_53
    · refine sw_l K dX4_longSide_4 (k := 6) (tgt := 54) (by decide) (by decide) (fun c4_6 => ?_) (fun c4_6 => ?_)
      · refine lv_ldc K.1 K.2.1 K.2.2.2.1 (K.2.2.1 _ kc_X4_43) dX4_longSide_54 ?_
        exact ret rfl (by exact (Eq.trans (if_neg c4_1) (Eq.trans (if_neg c4_3) (Eq.trans (if_pos c4_6) rfl)))) hw dX4_longSide_56
      · refine sw_l K dX4_longSide_4 (k := 26) (tgt := 57) (by decide) (by decide) (fun c4_26 => ?_) (fun c4_26 => ?_)
        · refine lv_ldc K.1 K.2.1 K.2.2.2.1 (K.2.2.1 _ kc_X4_44) dX4_longSide_57 ?_
          exact ret rfl (by exact (Eq.trans (if_neg c4_1) (Eq.trans (if_neg c4_3) (Eq.trans (if_neg c4_6) (Eq.trans (if_pos c4_26) rfl))))) hw dX4_longSide_59
        · refine lv_lookup (tgt := 60) (off := 56) K.1 K.2.1 dX4_longSide_4 (by decide) (by show Op.lookupswitch.offset [(1, 44), (3, 47), (6, 50), (26, 53)] 56 _ = 56; rw [lv_osw c4_1 (a := 1) rfl, lv_osw c4_3 (a := 3) rfl, lv_osw c4_6 (a := 6) rfl, lv_osw c4_26 (a := 26) rfl]; rfl) (by decide) ?_
          refine lv_ldc K.1 K.2.1 K.2.2.2.1 (K.2.2.1 _ kc_X4_38) dX4_longSide_60 ?_
          exact ret rfl (by exact (Eq.trans (if_neg c4_1) (Eq.trans (if_neg c4_3) (Eq.trans (if_neg c4_6) (Eq.trans (if_neg c4_26) rfl))))) hw dX4_longSide_62
def g_X4_choose_56 (σ : PS) (y3 : Int32) (k0 : Int32) : PS := (if y3 = 0 then (upS (upS σ 16 k0) 17 (f_X4_longSide (upS σ 16 k0))) else (upS (upS σ 16 k0) 17 (f_X4_shortSide (upS σ 16 k0))))
def g_X4_choose_31 (σ : PS) (k0 : Int32) : PS := (if k0 = 0 then (g_X4_choose_56 σ k0 ((f_X4_shortSide σ) - 3600)) else (g_X4_choose_56 σ k0 ((f_X4_longSide σ) - 2880)))
def g_X4_choose_26 (σ : PS) : PS := (g_X4_choose_31 σ 1)
def f_X4_choose (σ0 : PS) (x1 : Int32) (x2 : Int32) : PS := (if x2 = 1 then (g_X4_choose_26 (upS (upS σ0 13 x1) 14 x2)) else (if x2 = 3 then (g_X4_choose_26 (upS (upS σ0 13 x1) 14 x2)) else (g_X4_choose_31 (upS (upS σ0 13 x1) 14 x2) 0)))
theorem bx_g_X4_choose_56 {σ : PS} {y3 : Int32} {k0 : Int32} (hI : Bx σ) : Bx (g_X4_choose_56 σ y3 k0) := (bxI (fun c61 => (bxS_17 (bxS_16 hI))) (fun c61 => (bxS_17 (bxS_16 hI))))
theorem bx_g_X4_choose_31 {σ : PS} {k0 : Int32} (hI : Bx σ) : Bx (g_X4_choose_31 σ k0) := (bxI (fun c34 => (bx_g_X4_choose_56 hI)) (fun c34 => (bx_g_X4_choose_56 hI)))
theorem bx_g_X4_choose_26 {σ : PS} (hI : Bx σ) : Bx (g_X4_choose_26 σ) := (bx_g_X4_choose_31 hI)
theorem bx_X4_choose {σ0 : PS} {x1 : Int32} {x2 : Int32} (hI : Bx σ0) : Bx (f_X4_choose σ0 x1 x2) := (bxI (fun c15 => (bx_g_X4_choose_26 (bxS_14 (bxS_13 hI)))) (fun c15 => (bxI (fun c23 => (bx_g_X4_choose_26 (bxS_14 (bxS_13 hI)))) (fun c23 => (bx_g_X4_choose_31 (bxS_14 (bxS_13 hI)))))))
abbrev rm_X4_choose : Room := { frames := 1, cells := 0, slots := 0, locals := 20 }
set_option maxHeartbeats 4000000 in
set_option maxRecDepth 100000 in
theorem c_X4_choose (l : Launch) (D : va_G) (a : Nat → Nat) (cA : Nat → ClassId) (σ0 : PS) (x1 : Int32) (x2 : Int32) : CV l yX4_choose cX4_choose 4 rm_X4_choose D (pdT cA) [.ref (a 2), .int x1, .int x2] (pdW a cA σ0) (pdW a cA (f_X4_choose σ0 x1 x2)) := by
  refine en_v (by decide) (Nat.le_of_ble_eq_true rfl) ?_
  intro p e s m args below meth c A ls Q K hw hl ret
  have hl : lv_has ls 4 [(0, .ref (a 2)), (1, .int x1), (2, .int x2)] := hl
  have J56 : ∀ (σ : PS) (y3 : Int32) (k0 : Int32) (H : Heap) (locs : List Loc) (ls : Array Slot), WD D A s.heap (pdW a cA σ) H locs → lv_has ls 4 [(0, .ref (a 2)), (3, .int y3)] → f_X4_choose σ0 x1 x2 = g_X4_choose_56 σ y3 k0 → W p l e rm_X4_choose s m args below meth c H locs 0 0 Q (F0 m 56 ls [.int k0, .ref (a 2)]) := by
    intro σ y3 k0 H locs ls hw hl e0
    refine pD_2_3 K hw kf_X4_31 dX4_choose_56 (fun H locs hw => ?_)
    refine lv_aload_n K.1 K.2.1 dX4_choose_59 rfl (lv_at hl 0 rfl) ?_
    refine lv_iload_n K.1 K.2.1 dX4_choose_60 rfl (lv_at hl 1 rfl) ?_
    refine lv_if_eq (tgt := 71) K.1 K.2.1 dX4_choose_61 (by decide) (fun c61 => ?_) (fun c61 => ?_)
    · refine lv_aload_n K.1 K.2.1 dX4_choose_71 rfl (lv_at hl 0 rfl) ?_
      refine caI K hw (c_X4_longSide l D a cA _) hl.1 (tt_V km_X4_24 kI_X4_longSide ks_X4_longSide ki_X4 kC_X4_longSide) 2 (ci := 4) rfl rfl rfl (na := 0) rfl (by decide +kernel) ⟨rfl, rfl⟩ (by decide) ⟨Nat.zero_le _, Nat.zero_le _⟩ rfl (Nat.le_of_ble_eq_true rfl) dX4_choose_72 (fun H locs hw => ?_)
      refine pD_2_4 K hw kf_X4_34 dX4_choose_75 (fun H locs hw => ?_)
      exact ret (congrArg (pdW a cA) (by exact (Eq.trans e0 (Eq.trans (if_pos c61) rfl)))) hw dX4_choose_78
    · refine lv_aload_n K.1 K.2.1 dX4_choose_64 rfl (lv_at hl 0 rfl) ?_
      refine caI K hw (c_X4_shortSide l D a cA _) hl.1 (tt_V km_X4_28 kI_X4_shortSide ks_X4_shortSide ki_X4 kC_X4_shortSide) 2 (ci := 4) rfl rfl rfl (na := 0) rfl (by decide +kernel) ⟨rfl, rfl⟩ (by decide) ⟨Nat.zero_le _, Nat.zero_le _⟩ rfl (Nat.le_of_ble_eq_true rfl) dX4_choose_65 (fun H locs hw => ?_)
      refine lv_goto (tgt := 75) K.1 K.2.1 dX4_choose_68 (by decide) ?_
      refine pD_2_4 K hw kf_X4_34 dX4_choose_75 (fun H locs hw => ?_)
      exact ret (congrArg (pdW a cA) (by exact (Eq.trans e0 (Eq.trans (if_neg c61) rfl)))) hw dX4_choose_78
  have J31 : ∀ (σ : PS) (k0 : Int32) (H : Heap) (locs : List Loc) (ls : Array Slot), WD D A s.heap (pdW a cA σ) H locs → lv_has ls 4 [(0, .ref (a 2))] → f_X4_choose σ0 x1 x2 = g_X4_choose_31 σ k0 → W p l e rm_X4_choose s m args below meth c H locs 0 0 Q (F0 m 31 ls [.int k0]) := by
    intro σ k0 H locs ls hw hl e0
    refine lv_istore_n (lv' := [(3, .int k0), (0, .ref (a 2))]) K.1 K.2.1 dX4_choose_31 rfl hl (by decide) rfl (fun ls hl => ?_)
    refine lv_aload_n K.1 K.2.1 dX4_choose_32 rfl (lv_at hl 1 rfl) ?_
    refine lv_iload_n K.1 K.2.1 dX4_choose_33 rfl (lv_at hl 0 rfl) ?_
    refine lv_if_eq (tgt := 48) K.1 K.2.1 dX4_choose_34 (by decide) (fun c34 => ?_) (fun c34 => ?_)
    · refine lv_aload_n K.1 K.2.1 dX4_choose_48 rfl (lv_at hl 1 rfl) ?_
      refine caI K hw (c_X4_shortSide l D a cA _) hl.1 (tt_V km_X4_28 kI_X4_shortSide ks_X4_shortSide ki_X4 kC_X4_shortSide) 2 (ci := 4) rfl rfl rfl (na := 0) rfl (by decide +kernel) ⟨rfl, rfl⟩ (by decide) ⟨Nat.zero_le _, Nat.zero_le _⟩ rfl (Nat.le_of_ble_eq_true rfl) dX4_choose_49 (fun H locs hw => ?_)
      refine lv_sipush (v := 3600) K.1 K.2.1 dX4_choose_52 (by decide) ?_
      refine lv_isub K.1 K.2.1 dX4_choose_55 ?_
      exact J56 _ _ _ _ _ _ hw (lv_sub hl [1, 0] rfl) (by exact (Eq.trans e0 (Eq.trans (if_pos c34) rfl)))
    · refine lv_aload_n K.1 K.2.1 dX4_choose_37 rfl (lv_at hl 1 rfl) ?_
      refine caI K hw (c_X4_longSide l D a cA _) hl.1 (tt_V km_X4_24 kI_X4_longSide ks_X4_longSide ki_X4 kC_X4_longSide) 2 (ci := 4) rfl rfl rfl (na := 0) rfl (by decide +kernel) ⟨rfl, rfl⟩ (by decide) ⟨Nat.zero_le _, Nat.zero_le _⟩ rfl (Nat.le_of_ble_eq_true rfl) dX4_choose_38 (fun H locs hw => ?_)
      refine lv_sipush (v := 2880) K.1 K.2.1 dX4_choose_41 (by decide) ?_
      refine lv_isub K.1 K.2.1 dX4_choose_44 ?_
      refine lv_goto (tgt := 56) K.1 K.2.1 dX4_choose_45 (by decide) ?_
      exact J56 _ _ _ _ _ _ hw (lv_sub hl [1, 0] rfl) (by exact (Eq.trans e0 (Eq.trans (if_neg c34) rfl)))
  have J26 : ∀ (σ : PS) (H : Heap) (locs : List Loc) (ls : Array Slot), WD D A s.heap (pdW a cA σ) H locs → lv_has ls 4 [(0, .ref (a 2))] → f_X4_choose σ0 x1 x2 = g_X4_choose_26 σ → W p l e rm_X4_choose s m args below meth c H locs 0 0 Q (F0 m 26 ls []) := by
    intro σ H locs ls hw hl e0
    refine lv_iconst (v := 1) K.1 K.2.1 dX4_choose_26 (by decide) ?_
    refine lv_goto (tgt := 31) K.1 K.2.1 dX4_choose_27 (by decide) ?_
    exact J31 _ _ _ _ _ hw (lv_sub hl [0] rfl) (by exact (Eq.trans e0 rfl))
  refine lv_aload_n K.1 K.2.1 dX4_choose_0 rfl (lv_at hl 0 rfl) ?_
  refine lv_iload_n K.1 K.2.1 dX4_choose_1 rfl (lv_at hl 1 rfl) ?_
  refine pD_2_0 K hw kf_X4_15 dX4_choose_2 (fun H locs hw => ?_)
  refine lv_aload_n K.1 K.2.1 dX4_choose_5 rfl (lv_at hl 0 rfl) ?_
  refine lv_iload_n K.1 K.2.1 dX4_choose_6 rfl (lv_at hl 2 rfl) ?_
  refine pD_2_1 K hw kf_X4_21 dX4_choose_7 (fun H locs hw => ?_)
  refine lv_aload_n K.1 K.2.1 dX4_choose_10 rfl (lv_at hl 0 rfl) ?_
  refine gD_2_1 K hw kf_X4_21 dX4_choose_11 ?_
  refine lv_iconst (v := 1) K.1 K.2.1 dX4_choose_14 (by decide) ?_
  refine lv_icmp_eq (tgt := 26) K.1 K.2.1 dX4_choose_15 (by decide) (fun c15 => ?_) (fun c15 => ?_)
  · exact J26 _ _ _ _ hw (lv_sub hl [0] rfl) (by exact (Eq.trans (if_pos c15) rfl))
  · refine lv_aload_n K.1 K.2.1 dX4_choose_18 rfl (lv_at hl 0 rfl) ?_
    refine gD_2_1 K hw kf_X4_21 dX4_choose_19 ?_
    refine lv_iconst (v := 3) K.1 K.2.1 dX4_choose_22 (by decide) ?_
    refine lv_icmp_ne (tgt := 30) K.1 K.2.1 dX4_choose_23 (by decide) (fun c23 => ?_) (fun c23 => ?_)
    · refine lv_iconst (v := 0) K.1 K.2.1 dX4_choose_30 (by decide) ?_
      exact J31 _ _ _ _ _ hw (lv_sub hl [0] rfl) (by exact (Eq.trans (if_neg c15) (Eq.trans (if_neg c23) rfl)))
    · exact J26 _ _ _ _ hw (lv_sub hl [0] rfl) (by exact (Eq.trans (if_neg c15) (Eq.trans (if_pos c23) rfl)))
def f_X1_home (σ0 : PS) : Int32 := ((σ0.1 18) + (((σ0.1 23) * 3) / 4))
abbrev rm_X1_home : Room := { frames := 0, cells := 0, slots := 0, locals := 0 }
set_option maxHeartbeats 4000000 in
set_option maxRecDepth 100000 in
theorem c_X1_home (l : Launch) (D : va_G) (a : Nat → Nat) (cA : Nat → ClassId) (σ0 : PS) : CI l yX1_home cX1_home 1 .int rm_X1_home D (pdT cA) [.ref (a 3)] (pdW a cA σ0) (pdW a cA σ0) (f_X1_home σ0) := by
  refine en_i (by decide) (Nat.le_of_ble_eq_true rfl) rfl ?_
  intro p e s m args below meth c A ls Q K hw hl ret
  have hl : lv_has ls 1 [(0, .ref (a 3))] := hl
  refine lv_aload_n K.1 K.2.1 dX1_home_0 rfl (lv_at hl 0 rfl) ?_
  refine gD_3_0 K hw kf_X1_16 dX1_home_1 ?_
  refine lv_aload_n K.1 K.2.1 dX1_home_4 rfl (lv_at hl 0 rfl) ?_
  refine gD_3_5 K hw kf_X1_20 dX1_home_5 ?_
  refine lv_iconst (v := 3) K.1 K.2.1 dX1_home_8 (by decide) ?_
  refine lv_imul K.1 K.2.1 dX1_home_9 ?_
  refine lv_iconst (v := 4) K.1 K.2.1 dX1_home_10 (by decide) ?_
  refine lv_idiv K.1 K.2.1 dX1_home_11 (by decide) ?_
  refine lv_iadd K.1 K.2.1 dX1_home_12 ?_
  exact ret rfl (by exact rfl) hw dX1_home_13
def f_X6_isOverrun (σ0 : PS) : Int32 := (if (σ0.1 32) ≤ (σ0.1 31) then 0 else 1)
abbrev rm_X6_isOverrun : Room := { frames := 0, cells := 0, slots := 0, locals := 0 }
theorem nz_X6_isOverrun {σ0 : PS} : NZ (f_X6_isOverrun σ0) := (nzI nz0 nz1)
set_option maxHeartbeats 4000000 in
set_option maxRecDepth 100000 in
theorem c_X6_isOverrun (l : Launch) (D : va_G) (a : Nat → Nat) (cA : Nat → ClassId) (σ0 : PS) : CI l yX6_isOverrun cX6_isOverrun 1 .boolean rm_X6_isOverrun D (pdT cA) [.ref (a 4)] (pdW a cA σ0) (pdW a cA σ0) (f_X6_isOverrun σ0) := by
  refine en_i (by decide) (Nat.le_of_ble_eq_true rfl) nz_X6_isOverrun ?_
  intro p e s m args below meth c A ls Q K hw hl ret
  have hl : lv_has ls 1 [(0, .ref (a 4))] := hl
  refine lv_aload_n K.1 K.2.1 dX6_isOverrun_0 rfl (lv_at hl 0 rfl) ?_
  refine gD_4_2 K hw kf_X6_13 dX6_isOverrun_1 ?_
  refine lv_aload_n K.1 K.2.1 dX6_isOverrun_4 rfl (lv_at hl 0 rfl) ?_
  refine gD_4_1 K hw kf_X6_17 dX6_isOverrun_5 ?_
  refine lv_icmp_le (tgt := 15) K.1 K.2.1 dX6_isOverrun_8 (by decide) (fun c8 => ?_) (fun c8 => ?_)
  · refine lv_iconst (v := 0) K.1 K.2.1 dX6_isOverrun_15 (by decide) ?_
    exact ret rfl (by exact (Eq.trans (if_pos c8) rfl)) hw dX6_isOverrun_16
  · refine lv_iconst (v := 1) K.1 K.2.1 dX6_isOverrun_11 (by decide) ?_
    refine lv_goto (tgt := 16) K.1 K.2.1 dX6_isOverrun_12 (by decide) ?_
    exact ret rfl (by exact (Eq.trans (if_neg c8) rfl)) hw dX6_isOverrun_16
def f_X6_isDue (σ0 : PS) : Int32 := (if (σ0.1 33) = 0 then (if (σ0.1 31) ≤ 0 then 0 else 1) else 1)
abbrev rm_X6_isDue : Room := { frames := 0, cells := 0, slots := 0, locals := 0 }
theorem nz_X6_isDue {σ0 : PS} : NZ (f_X6_isDue σ0) := (nzI (nzI nz0 nz1) nz1)
set_option maxHeartbeats 4000000 in
set_option maxRecDepth 100000 in
theorem c_X6_isDue (l : Launch) (D : va_G) (a : Nat → Nat) (cA : Nat → ClassId) (σ0 : PS) : CI l yX6_isDue cX6_isDue 1 .boolean rm_X6_isDue D (pdT cA) [.ref (a 4)] (pdW a cA σ0) (pdW a cA σ0) (f_X6_isDue σ0) := by
  refine en_i (by decide) (Nat.le_of_ble_eq_true rfl) nz_X6_isDue ?_
  intro p e s m args below meth c A ls Q K hw hl ret
  have hl : lv_has ls 1 [(0, .ref (a 4))] := hl
  refine lv_aload_n K.1 K.2.1 dX6_isDue_0 rfl (lv_at hl 0 rfl) ?_
  refine gD_4_3 K hw kf_X6_20 dX6_isDue_1 ?_
  refine lv_if_ne (tgt := 14) K.1 K.2.1 dX6_isDue_4 (by decide) (fun c4 => ?_) (fun c4 => ?_)
  · refine lv_iconst (v := 1) K.1 K.2.1 dX6_isDue_14 (by decide) ?_
    refine lv_goto (tgt := 19) K.1 K.2.1 dX6_isDue_15 (by decide) ?_
    exact ret rfl (by exact (Eq.trans (if_neg c4) rfl)) hw dX6_isDue_19
  · refine lv_aload_n K.1 K.2.1 dX6_isDue_7 rfl (lv_at hl 0 rfl) ?_
    refine gD_4_1 K hw kf_X6_17 dX6_isDue_8 ?_
    refine lv_if_le (tgt := 18) K.1 K.2.1 dX6_isDue_11 (by decide) (fun c11 => ?_) (fun c11 => ?_)
    · refine lv_iconst (v := 0) K.1 K.2.1 dX6_isDue_18 (by decide) ?_
      exact ret rfl (by exact (Eq.trans (if_pos c4) (Eq.trans (if_pos c11) rfl))) hw dX6_isDue_19
    · refine lv_iconst (v := 1) K.1 K.2.1 dX6_isDue_14 (by decide) ?_
      refine lv_goto (tgt := 19) K.1 K.2.1 dX6_isDue_15 (by decide) ?_
      exact ret rfl (by exact (Eq.trans (if_pos c4) (Eq.trans (if_neg c11) rfl))) hw dX6_isDue_19
def f_X6_clear (σ0 : PS) : PS := (upS (upS (upS σ0 31 0) 32 0) 33 0)
theorem bx_X6_clear {σ0 : PS} (hI : Bx σ0) : Bx (f_X6_clear σ0) := (bxQ_33 (bxS_32 (bxQ_31 hI (by decide) (by decide))) (by decide) (by decide))
abbrev rm_X6_clear : Room := { frames := 0, cells := 0, slots := 0, locals := 0 }
set_option maxHeartbeats 4000000 in
set_option maxRecDepth 100000 in
theorem c_X6_clear (l : Launch) (D : va_G) (a : Nat → Nat) (cA : Nat → ClassId) (σ0 : PS) : CV l yX6_clear cX6_clear 1 rm_X6_clear D (pdT cA) [.ref (a 4)] (pdW a cA σ0) (pdW a cA (f_X6_clear σ0)) := by
  refine en_v (by decide) (Nat.le_of_ble_eq_true rfl) ?_
  intro p e s m args below meth c A ls Q K hw hl ret
  have hl : lv_has ls 1 [(0, .ref (a 4))] := hl
  refine lv_aload_n K.1 K.2.1 dX6_clear_0 rfl (lv_at hl 0 rfl) ?_
  refine lv_iconst (v := 0) K.1 K.2.1 dX6_clear_1 (by decide) ?_
  refine pD_4_1 K hw kf_X6_17 dX6_clear_2 (fun H locs hw => ?_)
  refine lv_aload_n K.1 K.2.1 dX6_clear_5 rfl (lv_at hl 0 rfl) ?_
  refine lv_iconst (v := 0) K.1 K.2.1 dX6_clear_6 (by decide) ?_
  refine pD_4_2 K hw kf_X6_13 dX6_clear_7 (fun H locs hw => ?_)
  refine lv_aload_n K.1 K.2.1 dX6_clear_10 rfl (lv_at hl 0 rfl) ?_
  refine lv_iconst (v := 0) K.1 K.2.1 dX6_clear_11 (by decide) ?_
  refine pD_4_3 K hw rfl rfl kf_X6_20 dX6_clear_12 (fun H locs hw => ?_)
  exact ret (congrArg (pdW a cA) (by exact rfl)) hw dX6_clear_15
def f_X0_has (σ0 : PS) (x1 : Int32) : Int32 := (if x1 < 0 then 0 else (if (σ0.1 34) ≤ x1 then 0 else (if x1 < ((σ0.1 34) - 40) then 0 else 1)))
abbrev rm_X0_has : Room := { frames := 0, cells := 0, slots := 0, locals := 0 }
theorem nz_X0_has {σ0 : PS} {x1 : Int32} : NZ (f_X0_has σ0 x1) := (nzI nz0 (nzI nz0 (nzI nz0 nz1)))
set_option maxHeartbeats 4000000 in
set_option maxRecDepth 100000 in
theorem c_X0_has (l : Launch) (D : va_G) (a : Nat → Nat) (cA : Nat → ClassId) (σ0 : PS) (x1 : Int32) : CI l yX0_has cX0_has 2 .boolean rm_X0_has D (pdT cA) [.ref (a 5), .int x1] (pdW a cA σ0) (pdW a cA σ0) (f_X0_has σ0 x1) := by
  refine en_i (by decide) (Nat.le_of_ble_eq_true rfl) nz_X0_has ?_
  intro p e s m args below meth c A ls Q K hw hl ret
  have hl : lv_has ls 2 [(0, .ref (a 5)), (1, .int x1)] := hl
  refine lv_iload_n K.1 K.2.1 dX0_has_0 rfl (lv_at hl 1 rfl) ?_
  refine lv_if_lt (tgt := 27) K.1 K.2.1 dX0_has_1 (by decide) (fun c1 => ?_) (fun c1 => ?_)
  · refine lv_iconst (v := 0) K.1 K.2.1 dX0_has_27 (by decide) ?_
    exact ret rfl (by exact (Eq.trans (if_pos c1) rfl)) hw dX0_has_28
  · refine lv_iload_n K.1 K.2.1 dX0_has_4 rfl (lv_at hl 1 rfl) ?_
    refine lv_aload_n K.1 K.2.1 dX0_has_5 rfl (lv_at hl 0 rfl) ?_
    refine gD_5_1 K hw kf_X0_13 dX0_has_6 ?_
    refine lv_icmp_ge (tgt := 27) K.1 K.2.1 dX0_has_9 (by decide) (fun c9 => ?_) (fun c9 => ?_)
    · refine lv_iconst (v := 0) K.1 K.2.1 dX0_has_27 (by decide) ?_
      exact ret rfl (by exact (Eq.trans (if_neg c1) (Eq.trans (if_pos c9) rfl))) hw dX0_has_28
    · refine lv_iload_n K.1 K.2.1 dX0_has_12 rfl (lv_at hl 1 rfl) ?_
      refine lv_aload_n K.1 K.2.1 dX0_has_13 rfl (lv_at hl 0 rfl) ?_
      refine gD_5_1 K hw kf_X0_13 dX0_has_14 ?_
      refine lv_bipush (v := 40) K.1 K.2.1 dX0_has_17 (by decide) ?_
      refine lv_isub K.1 K.2.1 dX0_has_19 ?_
      refine lv_icmp_lt (tgt := 27) K.1 K.2.1 dX0_has_20 (by decide) (fun c20 => ?_) (fun c20 => ?_)
      · refine lv_iconst (v := 0) K.1 K.2.1 dX0_has_27 (by decide) ?_
        exact ret rfl (by exact (Eq.trans (if_neg c1) (Eq.trans (if_neg c9) (Eq.trans (if_pos c20) rfl)))) hw dX0_has_28
      · refine lv_iconst (v := 1) K.1 K.2.1 dX0_has_23 (by decide) ?_
        refine lv_goto (tgt := 28) K.1 K.2.1 dX0_has_24 (by decide) ?_
        exact ret rfl (by exact (Eq.trans (if_neg c1) (Eq.trans (if_neg c9) (Eq.trans (if_neg c20) rfl)))) hw dX0_has_28
def f_X5_isUnderWay (σ0 : PS) : Int32 := (if (σ0.1 6) = 0 then (if (σ0.1 5) ≤ 0 then 0 else 1) else 1)
abbrev rm_X5_isUnderWay : Room := { frames := 0, cells := 0, slots := 0, locals := 0 }
theorem nz_X5_isUnderWay {σ0 : PS} : NZ (f_X5_isUnderWay σ0) := (nzI (nzI nz0 nz1) nz1)
set_option maxHeartbeats 4000000 in
set_option maxRecDepth 100000 in
theorem c_X5_isUnderWay (l : Launch) (D : va_G) (a : Nat → Nat) (cA : Nat → ClassId) (σ0 : PS) : CI l yX5_isUnderWay cX5_isUnderWay 1 .boolean rm_X5_isUnderWay D (pdT cA) [.ref (a 1)] (pdW a cA σ0) (pdW a cA σ0) (f_X5_isUnderWay σ0) := by
  refine en_i (by decide) (Nat.le_of_ble_eq_true rfl) nz_X5_isUnderWay ?_
  intro p e s m args below meth c A ls Q K hw hl ret
  have hl : lv_has ls 1 [(0, .ref (a 1))] := hl
  refine lv_aload_n K.1 K.2.1 dX5_isUnderWay_0 rfl (lv_at hl 0 rfl) ?_
  refine gD_1_6 K hw kf_X5_9 dX5_isUnderWay_1 ?_
  refine lv_if_ne (tgt := 14) K.1 K.2.1 dX5_isUnderWay_4 (by decide) (fun c4 => ?_) (fun c4 => ?_)
  · refine lv_iconst (v := 1) K.1 K.2.1 dX5_isUnderWay_14 (by decide) ?_
    refine lv_goto (tgt := 19) K.1 K.2.1 dX5_isUnderWay_15 (by decide) ?_
    exact ret rfl (by exact (Eq.trans (if_neg c4) rfl)) hw dX5_isUnderWay_19
  · refine lv_aload_n K.1 K.2.1 dX5_isUnderWay_7 rfl (lv_at hl 0 rfl) ?_
    refine gD_1_5 K hw kf_X5_15 dX5_isUnderWay_8 ?_
    refine lv_if_le (tgt := 18) K.1 K.2.1 dX5_isUnderWay_11 (by decide) (fun c11 => ?_) (fun c11 => ?_)
    · refine lv_iconst (v := 0) K.1 K.2.1 dX5_isUnderWay_18 (by decide) ?_
      exact ret rfl (by exact (Eq.trans (if_pos c4) (Eq.trans (if_pos c11) rfl))) hw dX5_isUnderWay_19
    · refine lv_iconst (v := 1) K.1 K.2.1 dX5_isUnderWay_14 (by decide) ?_
      refine lv_goto (tgt := 19) K.1 K.2.1 dX5_isUnderWay_15 (by decide) ?_
      exact ret rfl (by exact (Eq.trans (if_pos c4) (Eq.trans (if_neg c11) rfl))) hw dX5_isUnderWay_19
def f_X5_hasText (σ0 : PS) : Int32 := (if (σ0.1 0) = 38 then (if (σ0.1 1) = 112 then (if (σ0.1 3) = 88 then 1 else 0) else 0) else 0)
abbrev rm_X5_hasText : Room := { frames := 0, cells := 0, slots := 0, locals := 0 }
theorem nz_X5_hasText {σ0 : PS} : NZ (f_X5_hasText σ0) := (nzI (nzI (nzI nz1 nz0) nz0) nz0)
set_option maxHeartbeats 4000000 in
set_option maxRecDepth 100000 in
theorem c_X5_hasText (l : Launch) (D : va_G) (a : Nat → Nat) (cA : Nat → ClassId) (σ0 : PS) : CI l yX5_hasText cX5_hasText 1 .boolean rm_X5_hasText D (pdT cA) [.ref (a 1)] (pdW a cA σ0) (pdW a cA σ0) (f_X5_hasText σ0) := by
  refine en_i (by decide) (Nat.le_of_ble_eq_true rfl) nz_X5_hasText ?_
  intro p e s m args below meth c A ls Q K hw hl ret
  have hl : lv_has ls 1 [(0, .ref (a 1))] := hl
  refine lv_aload_n K.1 K.2.1 dX5_hasText_0 rfl (lv_at hl 0 rfl) ?_
  refine gD_1_0 K hw kf_X5_18 dX5_hasText_1 ?_
  refine lv_bipush (v := 38) K.1 K.2.1 dX5_hasText_4 (by decide) ?_
  refine lv_icmp_ne (tgt := 31) K.1 K.2.1 dX5_hasText_6 (by decide) (fun c6 => ?_) (fun c6 => ?_)
  · refine lv_iconst (v := 0) K.1 K.2.1 dX5_hasText_31 (by decide) ?_
    exact ret rfl (by exact (Eq.trans (if_neg c6) rfl)) hw dX5_hasText_32
  · refine lv_aload_n K.1 K.2.1 dX5_hasText_9 rfl (lv_at hl 0 rfl) ?_
    refine gD_1_1 K hw kf_X5_21 dX5_hasText_10 ?_
    refine lv_bipush (v := 112) K.1 K.2.1 dX5_hasText_13 (by decide) ?_
    refine lv_icmp_ne (tgt := 31) K.1 K.2.1 dX5_hasText_15 (by decide) (fun c15 => ?_) (fun c15 => ?_)
    · refine lv_iconst (v := 0) K.1 K.2.1 dX5_hasText_31 (by decide) ?_
      exact ret rfl (by exact (Eq.trans (if_pos c6) (Eq.trans (if_neg c15) rfl))) hw dX5_hasText_32
    · refine lv_aload_n K.1 K.2.1 dX5_hasText_18 rfl (lv_at hl 0 rfl) ?_
      refine gD_1_3 K hw kf_X5_24 dX5_hasText_19 ?_
      refine lv_bipush (v := 88) K.1 K.2.1 dX5_hasText_22 (by decide) ?_
      refine lv_icmp_ne (tgt := 31) K.1 K.2.1 dX5_hasText_24 (by decide) (fun c24 => ?_) (fun c24 => ?_)
      · refine lv_iconst (v := 0) K.1 K.2.1 dX5_hasText_31 (by decide) ?_
        exact ret rfl (by exact (Eq.trans (if_pos c6) (Eq.trans (if_pos c15) (Eq.trans (if_neg c24) rfl)))) hw dX5_hasText_32
      · refine lv_iconst (v := 1) K.1 K.2.1 dX5_hasText_27 (by decide) ?_
        refine lv_goto (tgt := 32) K.1 K.2.1 dX5_hasText_28 (by decide) ?_
        exact ret rfl (by exact (Eq.trans (if_pos c6) (Eq.trans (if_pos c15) (Eq.trans (if_pos c24) rfl)))) hw dX5_hasText_32
def f_X5_beginField (σ0 : PS) : PS := (upS (upS (upS (upS (upS (upS σ0 7 0) 8 0) 9 0) 10 0) 11 0) 12 1000)
theorem bx_X5_beginField {σ0 : PS} (hI : Bx σ0) : Bx (f_X5_beginField σ0) := (bxS_12 (bxS_11 (bxS_10 (bxQ_9 (bxQ_8 (bxS_7 hI) (by decide) (by decide)) (by decide) (by decide)))))
abbrev rm_X5_beginField : Room := { frames := 0, cells := 0, slots := 0, locals := 0 }
set_option maxHeartbeats 4000000 in
set_option maxRecDepth 100000 in
theorem c_X5_beginField (l : Launch) (D : va_G) (a : Nat → Nat) (cA : Nat → ClassId) (σ0 : PS) : CV l yX5_beginField cX5_beginField 1 rm_X5_beginField D (pdT cA) [.ref (a 1)] (pdW a cA σ0) (pdW a cA (f_X5_beginField σ0)) := by
  refine en_v (by decide) (Nat.le_of_ble_eq_true rfl) ?_
  intro p e s m args below meth c A ls Q K hw hl ret
  have hl : lv_has ls 1 [(0, .ref (a 1))] := hl
  refine lv_aload_n K.1 K.2.1 dX5_beginField_0 rfl (lv_at hl 0 rfl) ?_
  refine lv_iconst (v := 0) K.1 K.2.1 dX5_beginField_1 (by decide) ?_
  refine pD_1_7 K hw kf_X5_44 dX5_beginField_2 (fun H locs hw => ?_)
  refine lv_aload_n K.1 K.2.1 dX5_beginField_5 rfl (lv_at hl 0 rfl) ?_
  refine lv_iconst (v := 0) K.1 K.2.1 dX5_beginField_6 (by decide) ?_
  refine pD_1_8 K hw rfl rfl kf_X5_47 dX5_beginField_7 (fun H locs hw => ?_)
  refine lv_aload_n K.1 K.2.1 dX5_beginField_10 rfl (lv_at hl 0 rfl) ?_
  refine lv_iconst (v := 0) K.1 K.2.1 dX5_beginField_11 (by decide) ?_
  refine pD_1_9 K hw rfl rfl kf_X5_51 dX5_beginField_12 (fun H locs hw => ?_)
  refine lv_aload_n K.1 K.2.1 dX5_beginField_15 rfl (lv_at hl 0 rfl) ?_
  refine lv_iconst (v := 0) K.1 K.2.1 dX5_beginField_16 (by decide) ?_
  refine pD_1_10 K hw kf_X5_54 dX5_beginField_17 (fun H locs hw => ?_)
  refine lv_aload_n K.1 K.2.1 dX5_beginField_20 rfl (lv_at hl 0 rfl) ?_
  refine lv_iconst (v := 0) K.1 K.2.1 dX5_beginField_21 (by decide) ?_
  refine pD_1_11 K hw kf_X5_57 dX5_beginField_22 (fun H locs hw => ?_)
  refine lv_aload_n K.1 K.2.1 dX5_beginField_25 rfl (lv_at hl 0 rfl) ?_
  refine lv_sipush (v := 1000) K.1 K.2.1 dX5_beginField_26 (by decide) ?_
  refine pD_1_12 K hw kf_X5_60 dX5_beginField_29 (fun H locs hw => ?_)
  exact ret (congrArg (pdW a cA) (by exact rfl)) hw dX5_beginField_32
def f_X5_digit (σ0 : PS) (x1 : Int32) : PS := (if (σ0.1 7) = 3 then (upS (upS σ0 11 ((σ0.1 11) + (x1 * (σ0.1 12)))) 12 ((σ0.1 12) / 10)) else (upS (upS σ0 7 2) 10 (if (((σ0.1 10) * 10) + x1) < 32767 then (((σ0.1 10) * 10) + x1) else 32767)))
theorem bx_X5_digit {σ0 : PS} {x1 : Int32} (hI : Bx σ0) : Bx (f_X5_digit σ0 x1) := (bxI (fun c5 => (bxS_12 (bxS_11 hI))) (fun c5 => (bxS_10 (bxS_7 hI))))
abbrev rm_X5_digit : Room := { frames := 1, cells := 0, slots := 0, locals := 21 }
set_option maxHeartbeats 4000000 in
set_option maxRecDepth 100000 in
theorem c_X5_digit (l : Launch) (D : va_G) (a : Nat → Nat) (cA : Nat → ClassId) (σ0 : PS) (x1 : Int32) : CV l yX5_digit cX5_digit 2 rm_X5_digit D (pdT cA) [.ref (a 1), .int x1] (pdW a cA σ0) (pdW a cA (f_X5_digit σ0 x1)) := by
  refine en_v (by decide) (Nat.le_of_ble_eq_true rfl) ?_
  intro p e s m args below meth c A ls Q K hw hl ret
  have hl : lv_has ls 2 [(0, .ref (a 1)), (1, .int x1)] := hl
  refine lv_aload_n K.1 K.2.1 dX5_digit_0 rfl (lv_at hl 0 rfl) ?_
  refine gD_1_7 K hw kf_X5_44 dX5_digit_1 ?_
  refine lv_iconst (v := 3) K.1 K.2.1 dX5_digit_4 (by decide) ?_
  refine lv_icmp_ne (tgt := 37) K.1 K.2.1 dX5_digit_5 (by decide) (fun c5 => ?_) (fun c5 => ?_)
  · refine lv_aload_n K.1 K.2.1 dX5_digit_37 rfl (lv_at hl 0 rfl) ?_
    refine lv_iconst (v := 2) K.1 K.2.1 dX5_digit_38 (by decide) ?_
    refine pD_1_7 K hw kf_X5_44 dX5_digit_39 (fun H locs hw => ?_)
    refine lv_aload_n K.1 K.2.1 dX5_digit_42 rfl (lv_at hl 0 rfl) ?_
    refine lv_sipush (v := 32767) K.1 K.2.1 dX5_digit_43 (by decide) ?_
    refine lv_aload_n K.1 K.2.1 dX5_digit_46 rfl (lv_at hl 0 rfl) ?_
    refine gD_1_10 K hw kf_X5_54 dX5_digit_47 ?_
    refine lv_bipush (v := 10) K.1 K.2.1 dX5_digit_50 (by decide) ?_
    refine lv_imul K.1 K.2.1 dX5_digit_52 ?_
    refine lv_iload_n K.1 K.2.1 dX5_digit_53 rfl (lv_at hl 1 rfl) ?_
    refine lv_iadd K.1 K.2.1 dX5_digit_54 ?_
    refine va_mmin K.1 K.2.1 (K.2.2.2.2.2.1.trans hl.1.symm) K.2.2.2.1 (K.2.2.1 _ km_X5_74) (K.2.2.1 _ kS_J9_min_7cf53) (K.2.2.1 _ ki_J9) (K.2.2.1 _ kC_J9_min_7cf53) (by decide) (Nat.le_of_ble_eq_true rfl) (Nat.zero_le _) (Nat.zero_le _) dX5_digit_55 ?_
    refine pD_1_10 K hw kf_X5_54 dX5_digit_58 (fun H locs hw => ?_)
    exact ret (congrArg (pdW a cA) (by exact (Eq.trans (if_neg c5) rfl))) hw dX5_digit_61
  · refine lv_aload_n K.1 K.2.1 dX5_digit_8 rfl (lv_at hl 0 rfl) ?_
    refine lv_dup K.1 K.2.1 dX5_digit_9 rfl ?_
    refine gD_1_11 K hw kf_X5_57 dX5_digit_10 ?_
    refine lv_iload_n K.1 K.2.1 dX5_digit_13 rfl (lv_at hl 1 rfl) ?_
    refine lv_aload_n K.1 K.2.1 dX5_digit_14 rfl (lv_at hl 0 rfl) ?_
    refine gD_1_12 K hw kf_X5_60 dX5_digit_15 ?_
    refine lv_imul K.1 K.2.1 dX5_digit_18 ?_
    refine lv_iadd K.1 K.2.1 dX5_digit_19 ?_
    refine pD_1_11 K hw kf_X5_57 dX5_digit_20 (fun H locs hw => ?_)
    refine lv_aload_n K.1 K.2.1 dX5_digit_23 rfl (lv_at hl 0 rfl) ?_
    refine lv_dup K.1 K.2.1 dX5_digit_24 rfl ?_
    refine gD_1_12 K hw kf_X5_60 dX5_digit_25 ?_
    refine lv_bipush (v := 10) K.1 K.2.1 dX5_digit_28 (by decide) ?_
    refine lv_idiv K.1 K.2.1 dX5_digit_30 (by decide) ?_
    refine pD_1_12 K hw kf_X5_60 dX5_digit_31 (fun H locs hw => ?_)
    refine lv_goto (tgt := 61) K.1 K.2.1 dX5_digit_34 (by decide) ?_
    exact ret (congrArg (pdW a cA) (by exact (Eq.trans (if_pos c5) rfl))) hw dX5_digit_61
def g_X5_belongsToValue_55 (σ : PS) (y1 : Int32) : PS × Int32 := (if (σ.1 7) = 0 then (if y1 = 43 then (if y1 = 45 then ((upS (upS (upS σ 7 1) 8 1) 9 1), 1) else ((upS (upS (upS σ 7 1) 8 1) 9 0), 1)) else (if y1 = 45 then ((upS (upS (upS σ 7 1) 8 0) 9 1), 1) else ((upS (upS (upS σ 7 1) 8 0) 9 0), 1))) else (σ, 0))
def g_X5_belongsToValue_43 (σ : PS) (y1 : Int32) : PS × Int32 := (if y1 = 43 then (g_X5_belongsToValue_55 σ y1) else (if y1 = 45 then (g_X5_belongsToValue_55 σ y1) else (σ, 0)))
def g_X5_belongsToValue_22 (σ : PS) (y1 : Int32) : PS × Int32 := (if y1 = 46 then (if (σ.1 7) = 3 then (g_X5_belongsToValue_43 σ y1) else ((upS σ 7 3), 1)) else (g_X5_belongsToValue_43 σ y1))
def f_X5_belongsToValue (σ0 : PS) (x1 : Int32) : PS × Int32 := (if x1 < 48 then (g_X5_belongsToValue_22 σ0 x1) else (if 57 < x1 then (g_X5_belongsToValue_22 σ0 x1) else let s17 : PS := f_X5_digit σ0 (x1 - 48); (s17, 1)))
theorem bx_g_X5_belongsToValue_55 {σ : PS} {y1 : Int32} (hI : Bx σ) : Bx (g_X5_belongsToValue_55 σ y1).1 := (bxI2 (fun c59 => (bxI2 (fun c71 => (bxI2 (fun c86 => (bxQ_9 (bxQ_8 (bxS_7 hI) (by decide) (by decide)) (by decide) (by decide))) (fun c86 => (bxQ_9 (bxQ_8 (bxS_7 hI) (by decide) (by decide)) (by decide) (by decide))))) (fun c71 => (bxI2 (fun c86 => (bxQ_9 (bxQ_8 (bxS_7 hI) (by decide) (by decide)) (by decide) (by decide))) (fun c86 => (bxQ_9 (bxQ_8 (bxS_7 hI) (by decide) (by decide)) (by decide) (by decide))))))) (fun c59 => hI))
theorem bx_g_X5_belongsToValue_43 {σ : PS} {y1 : Int32} (hI : Bx σ) : Bx (g_X5_belongsToValue_43 σ y1).1 := (bxI2 (fun c46 => (bx_g_X5_belongsToValue_55 hI)) (fun c46 => (bxI2 (fun c52 => (bx_g_X5_belongsToValue_55 hI)) (fun c52 => hI))))
theorem bx_g_X5_belongsToValue_22 {σ : PS} {y1 : Int32} (hI : Bx σ) : Bx (g_X5_belongsToValue_22 σ y1).1 := (bxI2 (fun c25 => (bxI2 (fun c33 => (bx_g_X5_belongsToValue_43 hI)) (fun c33 => (bxS_7 hI)))) (fun c25 => (bx_g_X5_belongsToValue_43 hI)))
theorem bx_X5_belongsToValue {σ0 : PS} {x1 : Int32} (hI : Bx σ0) : Bx (f_X5_belongsToValue σ0 x1).1 := (bxI2 (fun c3 => (bx_g_X5_belongsToValue_22 hI)) (fun c3 => (bxI2 (fun c9 => (bx_g_X5_belongsToValue_22 hI)) (fun c9 => (bx_X5_digit hI)))))
abbrev rm_X5_belongsToValue : Room := { frames := 2, cells := 0, slots := 0, locals := 42 }
theorem nz_g_X5_belongsToValue_55 {σ : PS} {y1 : Int32} : NZ (g_X5_belongsToValue_55 σ y1).2 := (nzI2 (nzI2 (nzI2 nz1 nz1) (nzI2 nz1 nz1)) nz0)
theorem nz_g_X5_belongsToValue_43 {σ : PS} {y1 : Int32} : NZ (g_X5_belongsToValue_43 σ y1).2 := (nzI2 nz_g_X5_belongsToValue_55 (nzI2 nz_g_X5_belongsToValue_55 nz0))
theorem nz_g_X5_belongsToValue_22 {σ : PS} {y1 : Int32} : NZ (g_X5_belongsToValue_22 σ y1).2 := (nzI2 (nzI2 nz_g_X5_belongsToValue_43 nz1) nz_g_X5_belongsToValue_43)
theorem nz_X5_belongsToValue {σ0 : PS} {x1 : Int32} : NZ (f_X5_belongsToValue σ0 x1).2 := (nzI2 nz_g_X5_belongsToValue_22 (nzI2 nz_g_X5_belongsToValue_22 nz1))
set_option maxHeartbeats 4000000 in
set_option maxRecDepth 100000 in
theorem c_X5_belongsToValue (l : Launch) (D : va_G) (a : Nat → Nat) (cA : Nat → ClassId) (σ0 : PS) (x1 : Int32) : CI l yX5_belongsToValue cX5_belongsToValue 2 .boolean rm_X5_belongsToValue D (pdT cA) [.ref (a 1), .int x1] (pdW a cA σ0) (pdW a cA (f_X5_belongsToValue σ0 x1).1) (f_X5_belongsToValue σ0 x1).2 := by
  refine en_i (by decide) (Nat.le_of_ble_eq_true rfl) nz_X5_belongsToValue ?_
  intro p e s m args below meth c A ls Q K hw hl ret
  have hl : lv_has ls 2 [(0, .ref (a 1)), (1, .int x1)] := hl
  have J55 : ∀ (σ : PS) (y1 : Int32) (H : Heap) (locs : List Loc) (ls : Array Slot), WD D A s.heap (pdW a cA σ) H locs → lv_has ls 2 [(0, .ref (a 1)), (1, .int y1)] → f_X5_belongsToValue σ0 x1 = g_X5_belongsToValue_55 σ y1 → W p l e rm_X5_belongsToValue s m args below meth c H locs 0 0 Q (F0 m 55 ls []) := by
    intro σ y1 H locs ls hw hl e0
    refine lv_aload_n K.1 K.2.1 dX5_belongsToValue_55 rfl (lv_at hl 0 rfl) ?_
    refine gD_1_7 K hw kf_X5_44 dX5_belongsToValue_56 ?_
    refine lv_if_ne (tgt := 99) K.1 K.2.1 dX5_belongsToValue_59 (by decide) (fun c59 => ?_) (fun c59 => ?_)
    · refine lv_iconst (v := 0) K.1 K.2.1 dX5_belongsToValue_99 (by decide) ?_
      have eq9 : f_X5_belongsToValue σ0 x1 = (σ, 0) := (by exact (Eq.trans e0 (Eq.trans (if_neg c59) rfl)))
      exact ret (congrArg (fun z => pdW a cA z.1) eq9) (congrArg (fun z => z.2) eq9) hw dX5_belongsToValue_100
    · refine lv_aload_n K.1 K.2.1 dX5_belongsToValue_62 rfl (lv_at hl 0 rfl) ?_
      refine lv_iconst (v := 1) K.1 K.2.1 dX5_belongsToValue_63 (by decide) ?_
      refine pD_1_7 K hw kf_X5_44 dX5_belongsToValue_64 (fun H locs hw => ?_)
      refine lv_aload_n K.1 K.2.1 dX5_belongsToValue_67 rfl (lv_at hl 0 rfl) ?_
      refine lv_iload_n K.1 K.2.1 dX5_belongsToValue_68 rfl (lv_at hl 1 rfl) ?_
      refine lv_bipush (v := 43) K.1 K.2.1 dX5_belongsToValue_69 (by decide) ?_
      refine lv_icmp_ne (tgt := 78) K.1 K.2.1 dX5_belongsToValue_71 (by decide) (fun c71 => ?_) (fun c71 => ?_)
      · refine lv_iconst (v := 0) K.1 K.2.1 dX5_belongsToValue_78 (by decide) ?_
        refine pD_1_8 K hw rfl rfl kf_X5_47 dX5_belongsToValue_79 (fun H locs hw => ?_)
        refine lv_aload_n K.1 K.2.1 dX5_belongsToValue_82 rfl (lv_at hl 0 rfl) ?_
        refine lv_iload_n K.1 K.2.1 dX5_belongsToValue_83 rfl (lv_at hl 1 rfl) ?_
        refine lv_bipush (v := 45) K.1 K.2.1 dX5_belongsToValue_84 (by decide) ?_
        refine lv_icmp_ne (tgt := 93) K.1 K.2.1 dX5_belongsToValue_86 (by decide) (fun c86 => ?_) (fun c86 => ?_)
        · refine lv_iconst (v := 0) K.1 K.2.1 dX5_belongsToValue_93 (by decide) ?_
          refine pD_1_9 K hw rfl rfl kf_X5_51 dX5_belongsToValue_94 (fun H locs hw => ?_)
          refine lv_iconst (v := 1) K.1 K.2.1 dX5_belongsToValue_97 (by decide) ?_
          have eq9 : f_X5_belongsToValue σ0 x1 = ((upS (upS (upS σ 7 1) 8 0) 9 0), 1) := (by exact (Eq.trans e0 (Eq.trans (if_pos c59) (Eq.trans (if_neg c71) (Eq.trans (if_neg c86) rfl)))))
          exact ret (congrArg (fun z => pdW a cA z.1) eq9) (congrArg (fun z => z.2) eq9) hw dX5_belongsToValue_98
        · refine lv_iconst (v := 1) K.1 K.2.1 dX5_belongsToValue_89 (by decide) ?_
          refine lv_goto (tgt := 94) K.1 K.2.1 dX5_belongsToValue_90 (by decide) ?_
          refine pD_1_9 K hw rfl rfl kf_X5_51 dX5_belongsToValue_94 (fun H locs hw => ?_)
          refine lv_iconst (v := 1) K.1 K.2.1 dX5_belongsToValue_97 (by decide) ?_
          have eq9 : f_X5_belongsToValue σ0 x1 = ((upS (upS (upS σ 7 1) 8 0) 9 1), 1) := (by exact (Eq.trans e0 (Eq.trans (if_pos c59) (Eq.trans (if_neg c71) (Eq.trans (if_pos c86) rfl)))))
          exact ret (congrArg (fun z => pdW a cA z.1) eq9) (congrArg (fun z => z.2) eq9) hw dX5_belongsToValue_98
      · refine lv_iconst (v := 1) K.1 K.2.1 dX5_belongsToValue_74 (by decide) ?_
        refine lv_goto (tgt := 79) K.1 K.2.1 dX5_belongsToValue_75 (by decide) ?_
        refine pD_1_8 K hw rfl rfl kf_X5_47 dX5_belongsToValue_79 (fun H locs hw => ?_)
        refine lv_aload_n K.1 K.2.1 dX5_belongsToValue_82 rfl (lv_at hl 0 rfl) ?_
        refine lv_iload_n K.1 K.2.1 dX5_belongsToValue_83 rfl (lv_at hl 1 rfl) ?_
        refine lv_bipush (v := 45) K.1 K.2.1 dX5_belongsToValue_84 (by decide) ?_
        refine lv_icmp_ne (tgt := 93) K.1 K.2.1 dX5_belongsToValue_86 (by decide) (fun c86 => ?_) (fun c86 => ?_)
        · refine lv_iconst (v := 0) K.1 K.2.1 dX5_belongsToValue_93 (by decide) ?_
          refine pD_1_9 K hw rfl rfl kf_X5_51 dX5_belongsToValue_94 (fun H locs hw => ?_)
          refine lv_iconst (v := 1) K.1 K.2.1 dX5_belongsToValue_97 (by decide) ?_
          have eq9 : f_X5_belongsToValue σ0 x1 = ((upS (upS (upS σ 7 1) 8 1) 9 0), 1) := (by exact (Eq.trans e0 (Eq.trans (if_pos c59) (Eq.trans (if_pos c71) (Eq.trans (if_neg c86) rfl)))))
          exact ret (congrArg (fun z => pdW a cA z.1) eq9) (congrArg (fun z => z.2) eq9) hw dX5_belongsToValue_98
        · refine lv_iconst (v := 1) K.1 K.2.1 dX5_belongsToValue_89 (by decide) ?_
          refine lv_goto (tgt := 94) K.1 K.2.1 dX5_belongsToValue_90 (by decide) ?_
          refine pD_1_9 K hw rfl rfl kf_X5_51 dX5_belongsToValue_94 (fun H locs hw => ?_)
          refine lv_iconst (v := 1) K.1 K.2.1 dX5_belongsToValue_97 (by decide) ?_
          have eq9 : f_X5_belongsToValue σ0 x1 = ((upS (upS (upS σ 7 1) 8 1) 9 1), 1) := (by exact (Eq.trans e0 (Eq.trans (if_pos c59) (Eq.trans (if_pos c71) (Eq.trans (if_pos c86) rfl)))))
          exact ret (congrArg (fun z => pdW a cA z.1) eq9) (congrArg (fun z => z.2) eq9) hw dX5_belongsToValue_98
  have J43 : ∀ (σ : PS) (y1 : Int32) (H : Heap) (locs : List Loc) (ls : Array Slot), WD D A s.heap (pdW a cA σ) H locs → lv_has ls 2 [(0, .ref (a 1)), (1, .int y1)] → f_X5_belongsToValue σ0 x1 = g_X5_belongsToValue_43 σ y1 → W p l e rm_X5_belongsToValue s m args below meth c H locs 0 0 Q (F0 m 43 ls []) := by
    intro σ y1 H locs ls hw hl e0
    refine lv_iload_n K.1 K.2.1 dX5_belongsToValue_43 rfl (lv_at hl 1 rfl) ?_
    refine lv_bipush (v := 43) K.1 K.2.1 dX5_belongsToValue_44 (by decide) ?_
    refine lv_icmp_eq (tgt := 55) K.1 K.2.1 dX5_belongsToValue_46 (by decide) (fun c46 => ?_) (fun c46 => ?_)
    · exact J55 _ _ _ _ _ hw (lv_sub hl [0, 1] rfl) (by exact (Eq.trans e0 (Eq.trans (if_pos c46) rfl)))
    · refine lv_iload_n K.1 K.2.1 dX5_belongsToValue_49 rfl (lv_at hl 1 rfl) ?_
      refine lv_bipush (v := 45) K.1 K.2.1 dX5_belongsToValue_50 (by decide) ?_
      refine lv_icmp_ne (tgt := 99) K.1 K.2.1 dX5_belongsToValue_52 (by decide) (fun c52 => ?_) (fun c52 => ?_)
      · refine lv_iconst (v := 0) K.1 K.2.1 dX5_belongsToValue_99 (by decide) ?_
        have eq9 : f_X5_belongsToValue σ0 x1 = (σ, 0) := (by exact (Eq.trans e0 (Eq.trans (if_neg c46) (Eq.trans (if_neg c52) rfl))))
        exact ret (congrArg (fun z => pdW a cA z.1) eq9) (congrArg (fun z => z.2) eq9) hw dX5_belongsToValue_100
      · exact J55 _ _ _ _ _ hw (lv_sub hl [0, 1] rfl) (by exact (Eq.trans e0 (Eq.trans (if_neg c46) (Eq.trans (if_pos c52) rfl))))
  have J22 : ∀ (σ : PS) (y1 : Int32) (H : Heap) (locs : List Loc) (ls : Array Slot), WD D A s.heap (pdW a cA σ) H locs → lv_has ls 2 [(0, .ref (a 1)), (1, .int y1)] → f_X5_belongsToValue σ0 x1 = g_X5_belongsToValue_22 σ y1 → W p l e rm_X5_belongsToValue s m args below meth c H locs 0 0 Q (F0 m 22 ls []) := by
    intro σ y1 H locs ls hw hl e0
    refine lv_iload_n K.1 K.2.1 dX5_belongsToValue_22 rfl (lv_at hl 1 rfl) ?_
    refine lv_bipush (v := 46) K.1 K.2.1 dX5_belongsToValue_23 (by decide) ?_
    refine lv_icmp_ne (tgt := 43) K.1 K.2.1 dX5_belongsToValue_25 (by decide) (fun c25 => ?_) (fun c25 => ?_)
    · exact J43 _ _ _ _ _ hw (lv_sub hl [0, 1] rfl) (by exact (Eq.trans e0 (Eq.trans (if_neg c25) rfl)))
    · refine lv_aload_n K.1 K.2.1 dX5_belongsToValue_28 rfl (lv_at hl 0 rfl) ?_
      refine gD_1_7 K hw kf_X5_44 dX5_belongsToValue_29 ?_
      refine lv_iconst (v := 3) K.1 K.2.1 dX5_belongsToValue_32 (by decide) ?_
      refine lv_icmp_eq (tgt := 43) K.1 K.2.1 dX5_belongsToValue_33 (by decide) (fun c33 => ?_) (fun c33 => ?_)
      · exact J43 _ _ _ _ _ hw (lv_sub hl [0, 1] rfl) (by exact (Eq.trans e0 (Eq.trans (if_pos c25) (Eq.trans (if_pos c33) rfl))))
      · refine lv_aload_n K.1 K.2.1 dX5_belongsToValue_36 rfl (lv_at hl 0 rfl) ?_
        refine lv_iconst (v := 3) K.1 K.2.1 dX5_belongsToValue_37 (by decide) ?_
        refine pD_1_7 K hw kf_X5_44 dX5_belongsToValue_38 (fun H locs hw => ?_)
        refine lv_iconst (v := 1) K.1 K.2.1 dX5_belongsToValue_41 (by decide) ?_
        have eq9 : f_X5_belongsToValue σ0 x1 = ((upS σ 7 3), 1) := (by exact (Eq.trans e0 (Eq.trans (if_pos c25) (Eq.trans (if_neg c33) rfl))))
        exact ret (congrArg (fun z => pdW a cA z.1) eq9) (congrArg (fun z => z.2) eq9) hw dX5_belongsToValue_42
  refine lv_iload_n K.1 K.2.1 dX5_belongsToValue_0 rfl (lv_at hl 1 rfl) ?_
  refine lv_bipush (v := 48) K.1 K.2.1 dX5_belongsToValue_1 (by decide) ?_
  refine lv_icmp_lt (tgt := 22) K.1 K.2.1 dX5_belongsToValue_3 (by decide) (fun c3 => ?_) (fun c3 => ?_)
  · exact J22 _ _ _ _ _ hw (lv_sub hl [0, 1] rfl) (by exact (Eq.trans (if_pos c3) rfl))
  · refine lv_iload_n K.1 K.2.1 dX5_belongsToValue_6 rfl (lv_at hl 1 rfl) ?_
    refine lv_bipush (v := 57) K.1 K.2.1 dX5_belongsToValue_7 (by decide) ?_
    refine lv_icmp_gt (tgt := 22) K.1 K.2.1 dX5_belongsToValue_9 (by decide) (fun c9 => ?_) (fun c9 => ?_)
    · exact J22 _ _ _ _ _ hw (lv_sub hl [0, 1] rfl) (by exact (Eq.trans (if_neg c3) (Eq.trans (if_pos c9) rfl)))
    · refine lv_aload_n K.1 K.2.1 dX5_belongsToValue_12 rfl (lv_at hl 0 rfl) ?_
      refine lv_iload_n K.1 K.2.1 dX5_belongsToValue_13 rfl (lv_at hl 1 rfl) ?_
      refine lv_bipush (v := 48) K.1 K.2.1 dX5_belongsToValue_14 (by decide) ?_
      refine lv_isub K.1 K.2.1 dX5_belongsToValue_16 ?_
      refine caV K hw (c_X5_digit l D a cA _ _) hl.1 (tt_V km_X5_71 kI_X5_digit ks_X5_digit ki_X5 kC_X5_digit) 1 (ci := 5) rfl rfl rfl (na := 1) rfl (by decide +kernel) ⟨rfl, rfl⟩ (by decide) ⟨Nat.zero_le _, Nat.zero_le _⟩ rfl (Nat.le_of_ble_eq_true rfl) dX5_belongsToValue_17 (fun H locs hw => ?_)
      obtain ⟨s17, es17, hw⟩ := nmD hw
      refine lv_iconst (v := 1) K.1 K.2.1 dX5_belongsToValue_20 (by decide) ?_
      have eq9 : f_X5_belongsToValue σ0 x1 = (s17, 1) := (by subst es17; exact (Eq.trans (if_neg c3) (Eq.trans (if_neg c9) rfl)))
      exact ret (congrArg (fun z => pdW a cA z.1) eq9) (congrArg (fun z => z.2) eq9) hw dX5_belongsToValue_21
def g_X5_endField_90 (σ : PS) : PS := let s95 : PS := f_X5_beginField (upS σ 5 0); s95
def g_X5_endField_76 (σ : PS) : PS := (if (σ.1 9) = 0 then let s95 : PS := f_X5_beginField (upS σ 5 (σ.1 10)); s95 else (g_X5_endField_90 σ))
def g_X5_endField_46 (σ : PS) (y1 : Int32) : PS := (if y1 = 87 then (g_X5_endField_76 (upS (upS σ 4 1) 3 y1)) else (if (f_X5_hasText (upS (upS σ 4 1) 3 y1)) = 0 then (g_X5_endField_90 (upS (upS σ 4 1) 3 y1)) else (g_X5_endField_76 (upS (upS σ 4 1) 3 y1))))
def g_X5_endField_28 (σ : PS) (y1 : Int32) (k0 : Int32) : PS := (if (σ.1 8) = 0 then (if (σ.1 9) = 0 then (if y1 = 87 then (g_X5_endField_76 (upS (upS (upS σ 2 k0) 4 0) 3 y1)) else (if (f_X5_hasText (upS (upS (upS σ 2 k0) 4 0) 3 y1)) = 0 then (g_X5_endField_90 (upS (upS (upS σ 2 k0) 4 0) 3 y1)) else (g_X5_endField_76 (upS (upS (upS σ 2 k0) 4 0) 3 y1)))) else (g_X5_endField_46 (upS σ 2 k0) y1)) else (g_X5_endField_46 (upS σ 2 k0) y1))
def f_X5_endField (σ0 : PS) (x1 : Int32) : PS := let x2_13 : Int32 := (((σ0.1 10) * 10000) + (σ0.1 11)); (if (σ0.1 9) = 0 then (g_X5_endField_28 σ0 x1 x2_13) else (g_X5_endField_28 σ0 x1 (-x2_13)))
theorem bx_g_X5_endField_90 {σ : PS} (hI : Bx σ) : Bx (g_X5_endField_90 σ) := (bx_X5_beginField (bxS_5 hI))
theorem bx_g_X5_endField_76 {σ : PS} (hI : Bx σ) : Bx (g_X5_endField_76 σ) := (bxI (fun c80 => (bx_X5_beginField (bxS_5 hI))) (fun c80 => (bx_g_X5_endField_90 hI)))
theorem bx_g_X5_endField_46 {σ : PS} {y1 : Int32} (hI : Bx σ) : Bx (g_X5_endField_46 σ y1) := (bxI (fun c66 => (bx_g_X5_endField_76 (bxS_3 (bxQ_4 hI (by decide) (by decide))))) (fun c66 => (bxI (fun c73 => (bx_g_X5_endField_90 (bxS_3 (bxQ_4 hI (by decide) (by decide))))) (fun c73 => (bx_g_X5_endField_76 (bxS_3 (bxQ_4 hI (by decide) (by decide))))))))
theorem bx_g_X5_endField_28 {σ : PS} {y1 : Int32} {k0 : Int32} (hI : Bx σ) : Bx (g_X5_endField_28 σ y1 k0) := (bxI (fun c36 => (bxI (fun c43 => (bxI (fun c66 => (bx_g_X5_endField_76 (bxS_3 (bxQ_4 (bxS_2 hI) (by decide) (by decide))))) (fun c66 => (bxI (fun c73 => (bx_g_X5_endField_90 (bxS_3 (bxQ_4 (bxS_2 hI) (by decide) (by decide))))) (fun c73 => (bx_g_X5_endField_76 (bxS_3 (bxQ_4 (bxS_2 hI) (by decide) (by decide))))))))) (fun c43 => (bx_g_X5_endField_46 (bxS_2 hI))))) (fun c36 => (bx_g_X5_endField_46 (bxS_2 hI))))
theorem bx_X5_endField {σ0 : PS} {x1 : Int32} (hI : Bx σ0) : Bx (f_X5_endField σ0 x1) := (bxI (fun c19 => (bx_g_X5_endField_28 hI)) (fun c19 => (bx_g_X5_endField_28 hI)))
abbrev rm_X5_endField : Room := { frames := 1, cells := 0, slots := 0, locals := 20 }
set_option maxHeartbeats 4000000 in
set_option maxRecDepth 100000 in
theorem c_X5_endField (l : Launch) (D : va_G) (a : Nat → Nat) (cA : Nat → ClassId) (σ0 : PS) (x1 : Int32) : CV l yX5_endField cX5_endField 3 rm_X5_endField D (pdT cA) [.ref (a 1), .int x1] (pdW a cA σ0) (pdW a cA (f_X5_endField σ0 x1)) := by
  refine en_v (by decide) (Nat.le_of_ble_eq_true rfl) ?_
  intro p e s m args below meth c A ls Q K hw hl ret
  have hl : lv_has ls 3 [(0, .ref (a 1)), (1, .int x1)] := hl
  have J90 : ∀ (σ : PS) (H : Heap) (locs : List Loc) (ls : Array Slot), WD D A s.heap (pdW a cA σ) H locs → lv_has ls 3 [(0, .ref (a 1))] → f_X5_endField σ0 x1 = g_X5_endField_90 σ → W p l e rm_X5_endField s m args below meth c H locs 0 0 Q (F0 m 90 ls [.ref (a 1)]) := by
    intro σ H locs ls hw hl e0
    refine lv_iconst (v := 0) K.1 K.2.1 dX5_endField_90 (by decide) ?_
    refine pD_1_5 K hw kf_X5_15 dX5_endField_91 (fun H locs hw => ?_)
    refine lv_aload_n K.1 K.2.1 dX5_endField_94 rfl (lv_at hl 0 rfl) ?_
    refine caV K hw (c_X5_beginField l D a cA _) hl.1 (tt_V km_X5_41 kI_X5_beginField ks_X5_beginField ki_X5 kC_X5_beginField) 1 (ci := 5) rfl rfl rfl (na := 0) rfl (by decide +kernel) ⟨rfl, rfl⟩ (by decide) ⟨Nat.zero_le _, Nat.zero_le _⟩ rfl (Nat.le_of_ble_eq_true rfl) dX5_endField_95 (fun H locs hw => ?_)
    obtain ⟨s95, es95, hw⟩ := nmD hw
    exact ret (congrArg (pdW a cA) (by subst es95; exact (Eq.trans e0 rfl))) hw dX5_endField_98
  have J76 : ∀ (σ : PS) (H : Heap) (locs : List Loc) (ls : Array Slot), WD D A s.heap (pdW a cA σ) H locs → lv_has ls 3 [(0, .ref (a 1))] → f_X5_endField σ0 x1 = g_X5_endField_76 σ → W p l e rm_X5_endField s m args below meth c H locs 0 0 Q (F0 m 76 ls [.ref (a 1)]) := by
    intro σ H locs ls hw hl e0
    refine lv_aload_n K.1 K.2.1 dX5_endField_76 rfl (lv_at hl 0 rfl) ?_
    refine gD_1_9 K hw kf_X5_51 dX5_endField_77 ?_
    refine lv_if_ne (tgt := 90) K.1 K.2.1 dX5_endField_80 (by decide) (fun c80 => ?_) (fun c80 => ?_)
    · exact J90 _ _ _ _ hw (lv_sub hl [0] rfl) (by exact (Eq.trans e0 (Eq.trans (if_neg c80) rfl)))
    · refine lv_aload_n K.1 K.2.1 dX5_endField_83 rfl (lv_at hl 0 rfl) ?_
      refine gD_1_10 K hw kf_X5_54 dX5_endField_84 ?_
      refine lv_goto (tgt := 91) K.1 K.2.1 dX5_endField_87 (by decide) ?_
      refine pD_1_5 K hw kf_X5_15 dX5_endField_91 (fun H locs hw => ?_)
      refine lv_aload_n K.1 K.2.1 dX5_endField_94 rfl (lv_at hl 0 rfl) ?_
      refine caV K hw (c_X5_beginField l D a cA _) hl.1 (tt_V km_X5_41 kI_X5_beginField ks_X5_beginField ki_X5 kC_X5_beginField) 1 (ci := 5) rfl rfl rfl (na := 0) rfl (by decide +kernel) ⟨rfl, rfl⟩ (by decide) ⟨Nat.zero_le _, Nat.zero_le _⟩ rfl (Nat.le_of_ble_eq_true rfl) dX5_endField_95 (fun H locs hw => ?_)
      obtain ⟨s95, es95, hw⟩ := nmD hw
      exact ret (congrArg (pdW a cA) (by subst es95; exact (Eq.trans e0 (Eq.trans (if_pos c80) rfl)))) hw dX5_endField_98
  have J46 : ∀ (σ : PS) (y1 : Int32) (H : Heap) (locs : List Loc) (ls : Array Slot), WD D A s.heap (pdW a cA σ) H locs → lv_has ls 3 [(0, .ref (a 1)), (1, .int y1)] → f_X5_endField σ0 x1 = g_X5_endField_46 σ y1 → W p l e rm_X5_endField s m args below meth c H locs 0 0 Q (F0 m 46 ls [.ref (a 1)]) := by
    intro σ y1 H locs ls hw hl e0
    refine lv_iconst (v := 1) K.1 K.2.1 dX5_endField_46 (by decide) ?_
    refine lv_goto (tgt := 51) K.1 K.2.1 dX5_endField_47 (by decide) ?_
    refine pD_1_4 K hw rfl rfl kf_X5_83 dX5_endField_51 (fun H locs hw => ?_)
    refine lv_aload_n K.1 K.2.1 dX5_endField_54 rfl (lv_at hl 0 rfl) ?_
    refine lv_iload_n K.1 K.2.1 dX5_endField_55 rfl (lv_at hl 1 rfl) ?_
    refine pD_1_3 K hw kf_X5_24 dX5_endField_56 (fun H locs hw => ?_)
    refine lv_aload_n K.1 K.2.1 dX5_endField_59 rfl (lv_at hl 0 rfl) ?_
    refine lv_aload_n K.1 K.2.1 dX5_endField_60 rfl (lv_at hl 0 rfl) ?_
    refine gD_1_3 K hw kf_X5_24 dX5_endField_61 ?_
    refine lv_bipush (v := 87) K.1 K.2.1 dX5_endField_64 (by decide) ?_
    refine lv_icmp_eq (tgt := 76) K.1 K.2.1 dX5_endField_66 (by decide) (fun c66 => ?_) (fun c66 => ?_)
    · exact J76 _ _ _ _ hw (lv_sub hl [0] rfl) (by exact (Eq.trans e0 (Eq.trans (if_pos c66) rfl)))
    · refine lv_aload_n K.1 K.2.1 dX5_endField_69 rfl (lv_at hl 0 rfl) ?_
      refine caI K hw (c_X5_hasText l D a cA _) hl.1 (tt_V km_X5_27 kI_X5_hasText ks_X5_hasText ki_X5 kC_X5_hasText) 1 (ci := 5) rfl rfl rfl (na := 0) rfl (by decide +kernel) ⟨rfl, rfl⟩ (by decide) ⟨Nat.zero_le _, Nat.zero_le _⟩ rfl (Nat.le_of_ble_eq_true rfl) dX5_endField_70 (fun H locs hw => ?_)
      refine lv_if_eq (tgt := 90) K.1 K.2.1 dX5_endField_73 (by decide) (fun c73 => ?_) (fun c73 => ?_)
      · exact J90 _ _ _ _ hw (lv_sub hl [0] rfl) (by exact (Eq.trans e0 (Eq.trans (if_neg c66) (Eq.trans (if_pos c73) rfl))))
      · exact J76 _ _ _ _ hw (lv_sub hl [0] rfl) (by exact (Eq.trans e0 (Eq.trans (if_neg c66) (Eq.trans (if_neg c73) rfl))))
  have J28 : ∀ (σ : PS) (y1 : Int32) (k0 : Int32) (H : Heap) (locs : List Loc) (ls : Array Slot), WD D A s.heap (pdW a cA σ) H locs → lv_has ls 3 [(0, .ref (a 1)), (1, .int y1)] → f_X5_endField σ0 x1 = g_X5_endField_28 σ y1 k0 → W p l e rm_X5_endField s m args below meth c H locs 0 0 Q (F0 m 28 ls [.int k0, .ref (a 1)]) := by
    intro σ y1 k0 H locs ls hw hl e0
    refine pD_1_2 K hw kf_X5_80 dX5_endField_28 (fun H locs hw => ?_)
    refine lv_aload_n K.1 K.2.1 dX5_endField_31 rfl (lv_at hl 0 rfl) ?_
    refine lv_aload_n K.1 K.2.1 dX5_endField_32 rfl (lv_at hl 0 rfl) ?_
    refine gD_1_8 K hw kf_X5_47 dX5_endField_33 ?_
    refine lv_if_ne (tgt := 46) K.1 K.2.1 dX5_endField_36 (by decide) (fun c36 => ?_) (fun c36 => ?_)
    · exact J46 _ _ _ _ _ hw (lv_sub hl [0, 1] rfl) (by exact (Eq.trans e0 (Eq.trans (if_neg c36) rfl)))
    · refine lv_aload_n K.1 K.2.1 dX5_endField_39 rfl (lv_at hl 0 rfl) ?_
      refine gD_1_9 K hw kf_X5_51 dX5_endField_40 ?_
      refine lv_if_eq (tgt := 50) K.1 K.2.1 dX5_endField_43 (by decide) (fun c43 => ?_) (fun c43 => ?_)
      · refine lv_iconst (v := 0) K.1 K.2.1 dX5_endField_50 (by decide) ?_
        refine pD_1_4 K hw rfl rfl kf_X5_83 dX5_endField_51 (fun H locs hw => ?_)
        refine lv_aload_n K.1 K.2.1 dX5_endField_54 rfl (lv_at hl 0 rfl) ?_
        refine lv_iload_n K.1 K.2.1 dX5_endField_55 rfl (lv_at hl 1 rfl) ?_
        refine pD_1_3 K hw kf_X5_24 dX5_endField_56 (fun H locs hw => ?_)
        refine lv_aload_n K.1 K.2.1 dX5_endField_59 rfl (lv_at hl 0 rfl) ?_
        refine lv_aload_n K.1 K.2.1 dX5_endField_60 rfl (lv_at hl 0 rfl) ?_
        refine gD_1_3 K hw kf_X5_24 dX5_endField_61 ?_
        refine lv_bipush (v := 87) K.1 K.2.1 dX5_endField_64 (by decide) ?_
        refine lv_icmp_eq (tgt := 76) K.1 K.2.1 dX5_endField_66 (by decide) (fun c66 => ?_) (fun c66 => ?_)
        · exact J76 _ _ _ _ hw (lv_sub hl [0] rfl) (by exact (Eq.trans e0 (Eq.trans (if_pos c36) (Eq.trans (if_pos c43) (Eq.trans (if_pos c66) rfl)))))
        · refine lv_aload_n K.1 K.2.1 dX5_endField_69 rfl (lv_at hl 0 rfl) ?_
          refine caI K hw (c_X5_hasText l D a cA _) hl.1 (tt_V km_X5_27 kI_X5_hasText ks_X5_hasText ki_X5 kC_X5_hasText) 1 (ci := 5) rfl rfl rfl (na := 0) rfl (by decide +kernel) ⟨rfl, rfl⟩ (by decide) ⟨Nat.zero_le _, Nat.zero_le _⟩ rfl (Nat.le_of_ble_eq_true rfl) dX5_endField_70 (fun H locs hw => ?_)
          refine lv_if_eq (tgt := 90) K.1 K.2.1 dX5_endField_73 (by decide) (fun c73 => ?_) (fun c73 => ?_)
          · exact J90 _ _ _ _ hw (lv_sub hl [0] rfl) (by exact (Eq.trans e0 (Eq.trans (if_pos c36) (Eq.trans (if_pos c43) (Eq.trans (if_neg c66) (Eq.trans (if_pos c73) rfl))))))
          · exact J76 _ _ _ _ hw (lv_sub hl [0] rfl) (by exact (Eq.trans e0 (Eq.trans (if_pos c36) (Eq.trans (if_pos c43) (Eq.trans (if_neg c66) (Eq.trans (if_neg c73) rfl))))))
      · exact J46 _ _ _ _ _ hw (lv_sub hl [0, 1] rfl) (by exact (Eq.trans e0 (Eq.trans (if_pos c36) (Eq.trans (if_neg c43) rfl))))
  refine lv_aload_n K.1 K.2.1 dX5_endField_0 rfl (lv_at hl 0 rfl) ?_
  refine gD_1_10 K hw kf_X5_54 dX5_endField_1 ?_
  refine lv_sipush (v := 10000) K.1 K.2.1 dX5_endField_4 (by decide) ?_
  refine lv_imul K.1 K.2.1 dX5_endField_7 ?_
  refine lv_aload_n K.1 K.2.1 dX5_endField_8 rfl (lv_at hl 0 rfl) ?_
  refine gD_1_11 K hw kf_X5_57 dX5_endField_9 ?_
  refine lv_iadd K.1 K.2.1 dX5_endField_12 ?_
  refine lv_topi (fun x2_13 ex2_13 => ?_)
  refine lv_istore_n (lv' := [(2, .int x2_13), (0, .ref (a 1)), (1, .int x1)]) K.1 K.2.1 dX5_endField_13 rfl hl (by decide) rfl (fun ls hl => ?_)
  refine lv_aload_n K.1 K.2.1 dX5_endField_14 rfl (lv_at hl 1 rfl) ?_
  refine lv_aload_n K.1 K.2.1 dX5_endField_15 rfl (lv_at hl 1 rfl) ?_
  refine gD_1_9 K hw kf_X5_51 dX5_endField_16 ?_
  refine lv_if_eq (tgt := 27) K.1 K.2.1 dX5_endField_19 (by decide) (fun c19 => ?_) (fun c19 => ?_)
  · refine lv_iload_n K.1 K.2.1 dX5_endField_27 rfl (lv_at hl 0 rfl) ?_
    exact J28 _ _ _ _ _ _ hw (lv_sub hl [1, 2] rfl) (by subst ex2_13; exact (Eq.trans (if_pos c19) rfl))
  · refine lv_iload_n K.1 K.2.1 dX5_endField_22 rfl (lv_at hl 0 rfl) ?_
    refine lv_ineg K.1 K.2.1 dX5_endField_23 ?_
    refine lv_goto (tgt := 28) K.1 K.2.1 dX5_endField_24 (by decide) ?_
    exact J28 _ _ _ _ _ _ hw (lv_sub hl [1, 2] rfl) (by subst ex2_13; exact (Eq.trans (if_neg c19) rfl))
def g_X5_inField_46 (σ : PS) (y1 : Int32) : PS × Int32 := let s48 : PS := (f_X5_belongsToValue σ y1).1; (if (f_X5_belongsToValue σ y1).2 = 0 then ((upS s48 6 0), 0) else (s48, 0))
def g_X5_inField_22 (σ : PS) (y1 : Int32) : PS × Int32 := (if y1 < 64 then (g_X5_inField_46 σ y1) else (if 94 < y1 then (g_X5_inField_46 σ y1) else let s41 : PS := f_X5_endField (upS σ 6 0) y1; (s41, 4)))
def f_X5_inField (σ0 : PS) (x1 : Int32) : PS × Int32 := (if x1 < 96 then (g_X5_inField_22 σ0 x1) else (if 126 < x1 then (g_X5_inField_22 σ0 x1) else let s17 : PS := f_X5_endField σ0 (x1 - 32); (s17, 4)))
theorem bx_g_X5_inField_46 {σ : PS} {y1 : Int32} (hI : Bx σ) : Bx (g_X5_inField_46 σ y1).1 := (bxI2 (fun c51 => (bxS_6 (bx_X5_belongsToValue hI))) (fun c51 => (bx_X5_belongsToValue hI)))
theorem bx_g_X5_inField_22 {σ : PS} {y1 : Int32} (hI : Bx σ) : Bx (g_X5_inField_22 σ y1).1 := (bxI2 (fun c25 => (bx_g_X5_inField_46 hI)) (fun c25 => (bxI2 (fun c31 => (bx_g_X5_inField_46 hI)) (fun c31 => (bx_X5_endField (bxS_6 hI))))))
theorem bx_X5_inField {σ0 : PS} {x1 : Int32} (hI : Bx σ0) : Bx (f_X5_inField σ0 x1).1 := (bxI2 (fun c3 => (bx_g_X5_inField_22 hI)) (fun c3 => (bxI2 (fun c9 => (bx_g_X5_inField_22 hI)) (fun c9 => (bx_X5_endField hI)))))
abbrev rm_X5_inField : Room := { frames := 3, cells := 0, slots := 0, locals := 63 }
set_option maxHeartbeats 4000000 in
set_option maxRecDepth 100000 in
theorem c_X5_inField (l : Launch) (D : va_G) (a : Nat → Nat) (cA : Nat → ClassId) (σ0 : PS) (x1 : Int32) : CI l yX5_inField cX5_inField 2 .int rm_X5_inField D (pdT cA) [.ref (a 1), .int x1] (pdW a cA σ0) (pdW a cA (f_X5_inField σ0 x1).1) (f_X5_inField σ0 x1).2 := by
  refine en_i (by decide) (Nat.le_of_ble_eq_true rfl) rfl ?_
  intro p e s m args below meth c A ls Q K hw hl ret
  have hl : lv_has ls 2 [(0, .ref (a 1)), (1, .int x1)] := hl
  have J46 : ∀ (σ : PS) (y1 : Int32) (H : Heap) (locs : List Loc) (ls : Array Slot), WD D A s.heap (pdW a cA σ) H locs → lv_has ls 2 [(0, .ref (a 1)), (1, .int y1)] → f_X5_inField σ0 x1 = g_X5_inField_46 σ y1 → W p l e rm_X5_inField s m args below meth c H locs 0 0 Q (F0 m 46 ls []) := by
    intro σ y1 H locs ls hw hl e0
    refine lv_aload_n K.1 K.2.1 dX5_inField_46 rfl (lv_at hl 0 rfl) ?_
    refine lv_iload_n K.1 K.2.1 dX5_inField_47 rfl (lv_at hl 1 rfl) ?_
    refine caI K hw (c_X5_belongsToValue l D a cA _ _) hl.1 (tt_V km_X5_67 kI_X5_belongsToValue ks_X5_belongsToValue ki_X5 kC_X5_belongsToValue) 1 (ci := 5) rfl rfl rfl (na := 1) rfl (by decide +kernel) ⟨rfl, rfl⟩ (by decide) ⟨Nat.zero_le _, Nat.zero_le _⟩ rfl (Nat.le_of_ble_eq_true rfl) dX5_inField_48 (fun H locs hw => ?_)
    obtain ⟨s48, es48, hw⟩ := nmD hw
    refine lv_if_ne (tgt := 59) K.1 K.2.1 dX5_inField_51 (by decide) (fun c51 => ?_) (fun c51 => ?_)
    · refine lv_iconst (v := 0) K.1 K.2.1 dX5_inField_59 (by decide) ?_
      have eq9 : f_X5_inField σ0 x1 = (s48, 0) := (by subst es48; exact (Eq.trans e0 (Eq.trans (if_neg c51) rfl)))
      exact ret (congrArg (fun z => pdW a cA z.1) eq9) (congrArg (fun z => z.2) eq9) hw dX5_inField_60
    · refine lv_aload_n K.1 K.2.1 dX5_inField_54 rfl (lv_at hl 0 rfl) ?_
      refine lv_iconst (v := 0) K.1 K.2.1 dX5_inField_55 (by decide) ?_
      refine pD_1_6 K hw kf_X5_9 dX5_inField_56 (fun H locs hw => ?_)
      refine lv_iconst (v := 0) K.1 K.2.1 dX5_inField_59 (by decide) ?_
      have eq9 : f_X5_inField σ0 x1 = ((upS s48 6 0), 0) := (by subst es48; exact (Eq.trans e0 (Eq.trans (if_pos c51) rfl)))
      exact ret (congrArg (fun z => pdW a cA z.1) eq9) (congrArg (fun z => z.2) eq9) hw dX5_inField_60
  have J22 : ∀ (σ : PS) (y1 : Int32) (H : Heap) (locs : List Loc) (ls : Array Slot), WD D A s.heap (pdW a cA σ) H locs → lv_has ls 2 [(0, .ref (a 1)), (1, .int y1)] → f_X5_inField σ0 x1 = g_X5_inField_22 σ y1 → W p l e rm_X5_inField s m args below meth c H locs 0 0 Q (F0 m 22 ls []) := by
    intro σ y1 H locs ls hw hl e0
    refine lv_iload_n K.1 K.2.1 dX5_inField_22 rfl (lv_at hl 1 rfl) ?_
    refine lv_bipush (v := 64) K.1 K.2.1 dX5_inField_23 (by decide) ?_
    refine lv_icmp_lt (tgt := 46) K.1 K.2.1 dX5_inField_25 (by decide) (fun c25 => ?_) (fun c25 => ?_)
    · exact J46 _ _ _ _ _ hw (lv_sub hl [0, 1] rfl) (by exact (Eq.trans e0 (Eq.trans (if_pos c25) rfl)))
    · refine lv_iload_n K.1 K.2.1 dX5_inField_28 rfl (lv_at hl 1 rfl) ?_
      refine lv_bipush (v := 94) K.1 K.2.1 dX5_inField_29 (by decide) ?_
      refine lv_icmp_gt (tgt := 46) K.1 K.2.1 dX5_inField_31 (by decide) (fun c31 => ?_) (fun c31 => ?_)
      · exact J46 _ _ _ _ _ hw (lv_sub hl [0, 1] rfl) (by exact (Eq.trans e0 (Eq.trans (if_neg c25) (Eq.trans (if_pos c31) rfl))))
      · refine lv_aload_n K.1 K.2.1 dX5_inField_34 rfl (lv_at hl 0 rfl) ?_
        refine lv_iconst (v := 0) K.1 K.2.1 dX5_inField_35 (by decide) ?_
        refine pD_1_6 K hw kf_X5_9 dX5_inField_36 (fun H locs hw => ?_)
        refine lv_aload_n K.1 K.2.1 dX5_inField_39 rfl (lv_at hl 0 rfl) ?_
        refine lv_iload_n K.1 K.2.1 dX5_inField_40 rfl (lv_at hl 1 rfl) ?_
        refine caV K hw (c_X5_endField l D a cA _ _) hl.1 (tt_V km_X5_63 kI_X5_endField ks_X5_endField ki_X5 kC_X5_endField) 1 (ci := 5) rfl rfl rfl (na := 1) rfl (by decide +kernel) ⟨rfl, rfl⟩ (by decide) ⟨Nat.zero_le _, Nat.zero_le _⟩ rfl (Nat.le_of_ble_eq_true rfl) dX5_inField_41 (fun H locs hw => ?_)
        obtain ⟨s41, es41, hw⟩ := nmD hw
        refine lv_iconst (v := 4) K.1 K.2.1 dX5_inField_44 (by decide) ?_
        have eq9 : f_X5_inField σ0 x1 = (s41, 4) := (by subst es41; exact (Eq.trans e0 (Eq.trans (if_neg c25) (Eq.trans (if_neg c31) rfl))))
        exact ret (congrArg (fun z => pdW a cA z.1) eq9) (congrArg (fun z => z.2) eq9) hw dX5_inField_45
  refine lv_iload_n K.1 K.2.1 dX5_inField_0 rfl (lv_at hl 1 rfl) ?_
  refine lv_bipush (v := 96) K.1 K.2.1 dX5_inField_1 (by decide) ?_
  refine lv_icmp_lt (tgt := 22) K.1 K.2.1 dX5_inField_3 (by decide) (fun c3 => ?_) (fun c3 => ?_)
  · exact J22 _ _ _ _ _ hw (lv_sub hl [0, 1] rfl) (by exact (Eq.trans (if_pos c3) rfl))
  · refine lv_iload_n K.1 K.2.1 dX5_inField_6 rfl (lv_at hl 1 rfl) ?_
    refine lv_bipush (v := 126) K.1 K.2.1 dX5_inField_7 (by decide) ?_
    refine lv_icmp_gt (tgt := 22) K.1 K.2.1 dX5_inField_9 (by decide) (fun c9 => ?_) (fun c9 => ?_)
    · exact J22 _ _ _ _ _ hw (lv_sub hl [0, 1] rfl) (by exact (Eq.trans (if_neg c3) (Eq.trans (if_pos c9) rfl)))
    · refine lv_aload_n K.1 K.2.1 dX5_inField_12 rfl (lv_at hl 0 rfl) ?_
      refine lv_iload_n K.1 K.2.1 dX5_inField_13 rfl (lv_at hl 1 rfl) ?_
      refine lv_bipush (v := 32) K.1 K.2.1 dX5_inField_14 (by decide) ?_
      refine lv_isub K.1 K.2.1 dX5_inField_16 ?_
      refine caV K hw (c_X5_endField l D a cA _ _) hl.1 (tt_V km_X5_63 kI_X5_endField ks_X5_endField ki_X5 kC_X5_endField) 1 (ci := 5) rfl rfl rfl (na := 1) rfl (by decide +kernel) ⟨rfl, rfl⟩ (by decide) ⟨Nat.zero_le _, Nat.zero_le _⟩ rfl (Nat.le_of_ble_eq_true rfl) dX5_inField_17 (fun H locs hw => ?_)
      obtain ⟨s17, es17, hw⟩ := nmD hw
      refine lv_iconst (v := 4) K.1 K.2.1 dX5_inField_20 (by decide) ?_
      have eq9 : f_X5_inField σ0 x1 = (s17, 4) := (by subst es17; exact (Eq.trans (if_neg c3) (Eq.trans (if_neg c9) rfl)))
      exact ret (congrArg (fun z => pdW a cA z.1) eq9) (congrArg (fun z => z.2) eq9) hw dX5_inField_21
def f_X5_behindFamily (σ0 : PS) (x1 : Int32) : PS × Int32 := let s6 : PS := f_X5_beginField (upS σ0 6 3); (if x1 < 96 then let s30 : PS := (f_X5_inField s6 x1).1; (s30, (f_X5_inField s6 x1).2) else (if 126 < x1 then let s30 : PS := (f_X5_inField s6 x1).1; (s30, (f_X5_inField s6 x1).2) else ((upS s6 1 x1), 0)))
theorem bx_X5_behindFamily {σ0 : PS} {x1 : Int32} (hI : Bx σ0) : Bx (f_X5_behindFamily σ0 x1).1 := (bxI2 (fun c12 => (bx_X5_inField (bx_X5_beginField (bxS_6 hI)))) (fun c12 => (bxI2 (fun c18 => (bx_X5_inField (bx_X5_beginField (bxS_6 hI)))) (fun c18 => (bxS_1 (bx_X5_beginField (bxS_6 hI)))))))
abbrev rm_X5_behindFamily : Room := { frames := 4, cells := 0, slots := 0, locals := 84 }
set_option maxHeartbeats 4000000 in
set_option maxRecDepth 100000 in
theorem c_X5_behindFamily (l : Launch) (D : va_G) (a : Nat → Nat) (cA : Nat → ClassId) (σ0 : PS) (x1 : Int32) : CI l yX5_behindFamily cX5_behindFamily 2 .int rm_X5_behindFamily D (pdT cA) [.ref (a 1), .int x1] (pdW a cA σ0) (pdW a cA (f_X5_behindFamily σ0 x1).1) (f_X5_behindFamily σ0 x1).2 := by
  refine en_i (by decide) (Nat.le_of_ble_eq_true rfl) rfl ?_
  intro p e s m args below meth c A ls Q K hw hl ret
  have hl : lv_has ls 2 [(0, .ref (a 1)), (1, .int x1)] := hl
  refine lv_aload_n K.1 K.2.1 dX5_behindFamily_0 rfl (lv_at hl 0 rfl) ?_
  refine lv_iconst (v := 3) K.1 K.2.1 dX5_behindFamily_1 (by decide) ?_
  refine pD_1_6 K hw kf_X5_9 dX5_behindFamily_2 (fun H locs hw => ?_)
  refine lv_aload_n K.1 K.2.1 dX5_behindFamily_5 rfl (lv_at hl 0 rfl) ?_
  refine caV K hw (c_X5_beginField l D a cA _) hl.1 (tt_V km_X5_41 kI_X5_beginField ks_X5_beginField ki_X5 kC_X5_beginField) 1 (ci := 5) rfl rfl rfl (na := 0) rfl (by decide +kernel) ⟨rfl, rfl⟩ (by decide) ⟨Nat.zero_le _, Nat.zero_le _⟩ rfl (Nat.le_of_ble_eq_true rfl) dX5_behindFamily_6 (fun H locs hw => ?_)
  obtain ⟨s6, es6, hw⟩ := nmD hw
  refine lv_iload_n K.1 K.2.1 dX5_behindFamily_9 rfl (lv_at hl 1 rfl) ?_
  refine lv_bipush (v := 96) K.1 K.2.1 dX5_behindFamily_10 (by decide) ?_
  refine lv_icmp_lt (tgt := 28) K.1 K.2.1 dX5_behindFamily_12 (by decide) (fun c12 => ?_) (fun c12 => ?_)
  · refine lv_aload_n K.1 K.2.1 dX5_behindFamily_28 rfl (lv_at hl 0 rfl) ?_
    refine lv_iload_n K.1 K.2.1 dX5_behindFamily_29 rfl (lv_at hl 1 rfl) ?_
    refine caI K hw (c_X5_inField l D a cA _ _) hl.1 (tt_V km_X5_38 kI_X5_inField ks_X5_inField ki_X5 kC_X5_inField) 1 (ci := 5) rfl rfl rfl (na := 1) rfl (by decide +kernel) ⟨rfl, rfl⟩ (by decide) ⟨Nat.zero_le _, Nat.zero_le _⟩ rfl (Nat.le_of_ble_eq_true rfl) dX5_behindFamily_30 (fun H locs hw => ?_)
    obtain ⟨s30, es30, hw⟩ := nmD hw
    have eq9 : f_X5_behindFamily σ0 x1 = (s30, (f_X5_inField s6 x1).2) := (by subst es30 es6; exact (Eq.trans (if_pos c12) rfl))
    exact ret (congrArg (fun z => pdW a cA z.1) eq9) (congrArg (fun z => z.2) eq9) hw dX5_behindFamily_33
  · refine lv_iload_n K.1 K.2.1 dX5_behindFamily_15 rfl (lv_at hl 1 rfl) ?_
    refine lv_bipush (v := 126) K.1 K.2.1 dX5_behindFamily_16 (by decide) ?_
    refine lv_icmp_gt (tgt := 28) K.1 K.2.1 dX5_behindFamily_18 (by decide) (fun c18 => ?_) (fun c18 => ?_)
    · refine lv_aload_n K.1 K.2.1 dX5_behindFamily_28 rfl (lv_at hl 0 rfl) ?_
      refine lv_iload_n K.1 K.2.1 dX5_behindFamily_29 rfl (lv_at hl 1 rfl) ?_
      refine caI K hw (c_X5_inField l D a cA _ _) hl.1 (tt_V km_X5_38 kI_X5_inField ks_X5_inField ki_X5 kC_X5_inField) 1 (ci := 5) rfl rfl rfl (na := 1) rfl (by decide +kernel) ⟨rfl, rfl⟩ (by decide) ⟨Nat.zero_le _, Nat.zero_le _⟩ rfl (Nat.le_of_ble_eq_true rfl) dX5_behindFamily_30 (fun H locs hw => ?_)
      obtain ⟨s30, es30, hw⟩ := nmD hw
      have eq9 : f_X5_behindFamily σ0 x1 = (s30, (f_X5_inField s6 x1).2) := (by subst es30 es6; exact (Eq.trans (if_neg c12) (Eq.trans (if_pos c18) rfl)))
      exact ret (congrArg (fun z => pdW a cA z.1) eq9) (congrArg (fun z => z.2) eq9) hw dX5_behindFamily_33
    · refine lv_aload_n K.1 K.2.1 dX5_behindFamily_21 rfl (lv_at hl 0 rfl) ?_
      refine lv_iload_n K.1 K.2.1 dX5_behindFamily_22 rfl (lv_at hl 1 rfl) ?_
      refine pD_1_1 K hw kf_X5_21 dX5_behindFamily_23 (fun H locs hw => ?_)
      refine lv_iconst (v := 0) K.1 K.2.1 dX5_behindFamily_26 (by decide) ?_
      have eq9 : f_X5_behindFamily σ0 x1 = ((upS s6 1 x1), 0) := (by subst es6; exact (Eq.trans (if_neg c12) (Eq.trans (if_neg c18) rfl)))
      exact ret (congrArg (fun z => pdW a cA z.1) eq9) (congrArg (fun z => z.2) eq9) hw dX5_behindFamily_27
def g_X5_behindEsc_19 (σ : PS) (y1 : Int32) : PS × Int32 := (if y1 < 33 then ((upS σ 6 0), 0) else (if 47 < y1 then ((upS σ 6 0), 0) else ((upS (upS (upS σ 0 y1) 1 0) 6 2), 0)))
def f_X5_behindEsc (σ0 : PS) (x1 : Int32) : PS × Int32 := (if x1 < 48 then (g_X5_behindEsc_19 σ0 x1) else (if 126 < x1 then (g_X5_behindEsc_19 σ0 x1) else ((upS σ0 6 0), 3)))
theorem bx_g_X5_behindEsc_19 {σ : PS} {y1 : Int32} (hI : Bx σ) : Bx (g_X5_behindEsc_19 σ y1).1 := (bxI2 (fun c22 => (bxS_6 hI)) (fun c22 => (bxI2 (fun c28 => (bxS_6 hI)) (fun c28 => (bxS_6 (bxS_1 (bxS_0 hI)))))))
theorem bx_X5_behindEsc {σ0 : PS} {x1 : Int32} (hI : Bx σ0) : Bx (f_X5_behindEsc σ0 x1).1 := (bxI2 (fun c3 => (bx_g_X5_behindEsc_19 hI)) (fun c3 => (bxI2 (fun c9 => (bx_g_X5_behindEsc_19 hI)) (fun c9 => (bxS_6 hI)))))
abbrev rm_X5_behindEsc : Room := { frames := 0, cells := 0, slots := 0, locals := 0 }
set_option maxHeartbeats 4000000 in
set_option maxRecDepth 100000 in
theorem c_X5_behindEsc (l : Launch) (D : va_G) (a : Nat → Nat) (cA : Nat → ClassId) (σ0 : PS) (x1 : Int32) : CI l yX5_behindEsc cX5_behindEsc 2 .int rm_X5_behindEsc D (pdT cA) [.ref (a 1), .int x1] (pdW a cA σ0) (pdW a cA (f_X5_behindEsc σ0 x1).1) (f_X5_behindEsc σ0 x1).2 := by
  refine en_i (by decide) (Nat.le_of_ble_eq_true rfl) rfl ?_
  intro p e s m args below meth c A ls Q K hw hl ret
  have hl : lv_has ls 2 [(0, .ref (a 1)), (1, .int x1)] := hl
  have J19 : ∀ (σ : PS) (y1 : Int32) (H : Heap) (locs : List Loc) (ls : Array Slot), WD D A s.heap (pdW a cA σ) H locs → lv_has ls 2 [(0, .ref (a 1)), (1, .int y1)] → f_X5_behindEsc σ0 x1 = g_X5_behindEsc_19 σ y1 → W p l e rm_X5_behindEsc s m args below meth c H locs 0 0 Q (F0 m 19 ls []) := by
    intro σ y1 H locs ls hw hl e0
    refine lv_iload_n K.1 K.2.1 dX5_behindEsc_19 rfl (lv_at hl 1 rfl) ?_
    refine lv_bipush (v := 33) K.1 K.2.1 dX5_behindEsc_20 (by decide) ?_
    refine lv_icmp_lt (tgt := 48) K.1 K.2.1 dX5_behindEsc_22 (by decide) (fun c22 => ?_) (fun c22 => ?_)
    · refine lv_aload_n K.1 K.2.1 dX5_behindEsc_48 rfl (lv_at hl 0 rfl) ?_
      refine lv_iconst (v := 0) K.1 K.2.1 dX5_behindEsc_49 (by decide) ?_
      refine pD_1_6 K hw kf_X5_9 dX5_behindEsc_50 (fun H locs hw => ?_)
      refine lv_iconst (v := 0) K.1 K.2.1 dX5_behindEsc_53 (by decide) ?_
      have eq9 : f_X5_behindEsc σ0 x1 = ((upS σ 6 0), 0) := (by exact (Eq.trans e0 (Eq.trans (if_pos c22) rfl)))
      exact ret (congrArg (fun z => pdW a cA z.1) eq9) (congrArg (fun z => z.2) eq9) hw dX5_behindEsc_54
    · refine lv_iload_n K.1 K.2.1 dX5_behindEsc_25 rfl (lv_at hl 1 rfl) ?_
      refine lv_bipush (v := 47) K.1 K.2.1 dX5_behindEsc_26 (by decide) ?_
      refine lv_icmp_gt (tgt := 48) K.1 K.2.1 dX5_behindEsc_28 (by decide) (fun c28 => ?_) (fun c28 => ?_)
      · refine lv_aload_n K.1 K.2.1 dX5_behindEsc_48 rfl (lv_at hl 0 rfl) ?_
        refine lv_iconst (v := 0) K.1 K.2.1 dX5_behindEsc_49 (by decide) ?_
        refine pD_1_6 K hw kf_X5_9 dX5_behindEsc_50 (fun H locs hw => ?_)
        refine lv_iconst (v := 0) K.1 K.2.1 dX5_behindEsc_53 (by decide) ?_
        have eq9 : f_X5_behindEsc σ0 x1 = ((upS σ 6 0), 0) := (by exact (Eq.trans e0 (Eq.trans (if_neg c22) (Eq.trans (if_pos c28) rfl))))
        exact ret (congrArg (fun z => pdW a cA z.1) eq9) (congrArg (fun z => z.2) eq9) hw dX5_behindEsc_54
      · refine lv_aload_n K.1 K.2.1 dX5_behindEsc_31 rfl (lv_at hl 0 rfl) ?_
        refine lv_iload_n K.1 K.2.1 dX5_behindEsc_32 rfl (lv_at hl 1 rfl) ?_
        refine pD_1_0 K hw kf_X5_18 dX5_behindEsc_33 (fun H locs hw => ?_)
        refine lv_aload_n K.1 K.2.1 dX5_behindEsc_36 rfl (lv_at hl 0 rfl) ?_
        refine lv_iconst (v := 0) K.1 K.2.1 dX5_behindEsc_37 (by decide) ?_
        refine pD_1_1 K hw kf_X5_21 dX5_behindEsc_38 (fun H locs hw => ?_)
        refine lv_aload_n K.1 K.2.1 dX5_behindEsc_41 rfl (lv_at hl 0 rfl) ?_
        refine lv_iconst (v := 2) K.1 K.2.1 dX5_behindEsc_42 (by decide) ?_
        refine pD_1_6 K hw kf_X5_9 dX5_behindEsc_43 (fun H locs hw => ?_)
        refine lv_iconst (v := 0) K.1 K.2.1 dX5_behindEsc_46 (by decide) ?_
        have eq9 : f_X5_behindEsc σ0 x1 = ((upS (upS (upS σ 0 y1) 1 0) 6 2), 0) := (by exact (Eq.trans e0 (Eq.trans (if_neg c22) (Eq.trans (if_neg c28) rfl))))
        exact ret (congrArg (fun z => pdW a cA z.1) eq9) (congrArg (fun z => z.2) eq9) hw dX5_behindEsc_47
  refine lv_iload_n K.1 K.2.1 dX5_behindEsc_0 rfl (lv_at hl 1 rfl) ?_
  refine lv_bipush (v := 48) K.1 K.2.1 dX5_behindEsc_1 (by decide) ?_
  refine lv_icmp_lt (tgt := 19) K.1 K.2.1 dX5_behindEsc_3 (by decide) (fun c3 => ?_) (fun c3 => ?_)
  · exact J19 _ _ _ _ _ hw (lv_sub hl [0, 1] rfl) (by exact (Eq.trans (if_pos c3) rfl))
  · refine lv_iload_n K.1 K.2.1 dX5_behindEsc_6 rfl (lv_at hl 1 rfl) ?_
    refine lv_bipush (v := 126) K.1 K.2.1 dX5_behindEsc_7 (by decide) ?_
    refine lv_icmp_gt (tgt := 19) K.1 K.2.1 dX5_behindEsc_9 (by decide) (fun c9 => ?_) (fun c9 => ?_)
    · exact J19 _ _ _ _ _ hw (lv_sub hl [0, 1] rfl) (by exact (Eq.trans (if_neg c3) (Eq.trans (if_pos c9) rfl)))
    · refine lv_aload_n K.1 K.2.1 dX5_behindEsc_12 rfl (lv_at hl 0 rfl) ?_
      refine lv_iconst (v := 0) K.1 K.2.1 dX5_behindEsc_13 (by decide) ?_
      refine pD_1_6 K hw kf_X5_9 dX5_behindEsc_14 (fun H locs hw => ?_)
      refine lv_iconst (v := 3) K.1 K.2.1 dX5_behindEsc_17 (by decide) ?_
      have eq9 : f_X5_behindEsc σ0 x1 = ((upS σ0 6 0), 3) := (by exact (Eq.trans (if_neg c3) (Eq.trans (if_neg c9) rfl)))
      exact ret (congrArg (fun z => pdW a cA z.1) eq9) (congrArg (fun z => z.2) eq9) hw dX5_behindEsc_18
def f_X5_accept (σ0 : PS) (x1 : Int32) : PS × Int32 := (if (σ0.1 5) ≤ 0 then (if x1 = 27 then ((upS σ0 6 1), 0) else (if (σ0.1 6) = 1 then let s74 : PS := (f_X5_behindEsc σ0 x1).1; (s74, (f_X5_behindEsc σ0 x1).2) else (if (σ0.1 6) = 2 then let s80 : PS := (f_X5_behindFamily σ0 x1).1; (s80, (f_X5_behindFamily σ0 x1).2) else (if (σ0.1 6) = 3 then let s86 : PS := (f_X5_inField σ0 x1).1; (s86, (f_X5_inField σ0 x1).2) else (if x1 < 32 then (σ0, 2) else (σ0, 1)))))) else (if (f_X5_hasText (upS σ0 5 ((σ0.1 5) - 1))) = 0 then ((upS σ0 5 ((σ0.1 5) - 1)), 5) else ((upS σ0 5 ((σ0.1 5) - 1)), 1)))
theorem bx_X5_accept {σ0 : PS} {x1 : Int32} (hI : Bx σ0) : Bx (f_X5_accept σ0 x1).1 := (bxI2 (fun c4 => (bxI2 (fun c33 => (bxS_6 hI)) (fun c33 => (bxI2 (fun c47_1 => (bx_X5_behindEsc hI)) (fun c47_1 => (bxI2 (fun c47_2 => (bx_X5_behindFamily hI)) (fun c47_2 => (bxI2 (fun c47_3 => (bx_X5_inField hI)) (fun c47_3 => (bxI2 (fun c93 => hI) (fun c93 => hI))))))))))) (fun c4 => (bxI2 (fun c21 => (bxS_5 hI)) (fun c21 => (bxS_5 hI)))))
abbrev rm_X5_accept : Room := { frames := 5, cells := 0, slots := 0, locals := 105 }
set_option maxHeartbeats 4000000 in
set_option maxRecDepth 100000 in
theorem c_X5_accept (l : Launch) (D : va_G) (a : Nat → Nat) (cA : Nat → ClassId) (σ0 : PS) (x1 : Int32) : CI l yX5_accept cX5_accept 2 .int rm_X5_accept D (pdT cA) [.ref (a 1), .int x1] (pdW a cA σ0) (pdW a cA (f_X5_accept σ0 x1).1) (f_X5_accept σ0 x1).2 := by
  refine en_i (by decide) (Nat.le_of_ble_eq_true rfl) rfl ?_
  intro p e s m args below meth c A ls Q K hw hl ret
  have hl : lv_has ls 2 [(0, .ref (a 1)), (1, .int x1)] := hl
  refine lv_aload_n K.1 K.2.1 dX5_accept_0 rfl (lv_at hl 0 rfl) ?_
  refine gD_1_5 K hw kf_X5_15 dX5_accept_1 ?_
  refine lv_if_le (tgt := 30) K.1 K.2.1 dX5_accept_4 (by decide) (fun c4 => ?_) (fun c4 => ?_)
  · refine lv_iload_n K.1 K.2.1 dX5_accept_30 rfl (lv_at hl 1 rfl) ?_
    refine lv_bipush (v := 27) K.1 K.2.1 dX5_accept_31 (by decide) ?_
    refine lv_icmp_ne (tgt := 43) K.1 K.2.1 dX5_accept_33 (by decide) (fun c33 => ?_) (fun c33 => ?_)
    · refine lv_aload_n K.1 K.2.1 dX5_accept_43 rfl (lv_at hl 0 rfl) ?_
      refine gD_1_6 K hw kf_X5_9 dX5_accept_44 ?_
      refine sw_t K dX5_accept_47 (k := 1) (tgt := 72) (by decide) (by decide) (fun c47_1 => ?_) (fun c47_1 => ?_)
      · refine lv_aload_n K.1 K.2.1 dX5_accept_72 rfl (lv_at hl 0 rfl) ?_
        refine lv_iload_n K.1 K.2.1 dX5_accept_73 rfl (lv_at hl 1 rfl) ?_
        refine caI K hw (c_X5_behindEsc l D a cA _ _) hl.1 (tt_V km_X5_31 kI_X5_behindEsc ks_X5_behindEsc ki_X5 kC_X5_behindEsc) 1 (ci := 5) rfl rfl rfl (na := 1) rfl (by decide +kernel) ⟨rfl, rfl⟩ (by decide) ⟨Nat.zero_le _, Nat.zero_le _⟩ rfl (Nat.le_of_ble_eq_true rfl) dX5_accept_74 (fun H locs hw => ?_)
        obtain ⟨s74, es74, hw⟩ := nmD hw
        have eq9 : f_X5_accept σ0 x1 = (s74, (f_X5_behindEsc σ0 x1).2) := (by subst es74; exact (Eq.trans (if_pos c4) (Eq.trans (if_neg c33) (Eq.trans (if_pos c47_1) rfl))))
        exact ret (congrArg (fun z => pdW a cA z.1) eq9) (congrArg (fun z => z.2) eq9) hw dX5_accept_77
      · refine sw_t K dX5_accept_47 (k := 2) (tgt := 78) (by decide) (by decide) (fun c47_2 => ?_) (fun c47_2 => ?_)
        · refine lv_aload_n K.1 K.2.1 dX5_accept_78 rfl (lv_at hl 0 rfl) ?_
          refine lv_iload_n K.1 K.2.1 dX5_accept_79 rfl (lv_at hl 1 rfl) ?_
          refine caI K hw (c_X5_behindFamily l D a cA _ _) hl.1 (tt_V km_X5_35 kI_X5_behindFamily ks_X5_behindFamily ki_X5 kC_X5_behindFamily) 1 (ci := 5) rfl rfl rfl (na := 1) rfl (by decide +kernel) ⟨rfl, rfl⟩ (by decide) ⟨Nat.zero_le _, Nat.zero_le _⟩ rfl (Nat.le_of_ble_eq_true rfl) dX5_accept_80 (fun H locs hw => ?_)
          obtain ⟨s80, es80, hw⟩ := nmD hw
          have eq9 : f_X5_accept σ0 x1 = (s80, (f_X5_behindFamily σ0 x1).2) := (by subst es80; exact (Eq.trans (if_pos c4) (Eq.trans (if_neg c33) (Eq.trans (if_neg c47_1) (Eq.trans (if_pos c47_2) rfl)))))
          exact ret (congrArg (fun z => pdW a cA z.1) eq9) (congrArg (fun z => z.2) eq9) hw dX5_accept_83
        · refine sw_t K dX5_accept_47 (k := 3) (tgt := 84) (by decide) (by decide) (fun c47_3 => ?_) (fun c47_3 => ?_)
          · refine lv_aload_n K.1 K.2.1 dX5_accept_84 rfl (lv_at hl 0 rfl) ?_
            refine lv_iload_n K.1 K.2.1 dX5_accept_85 rfl (lv_at hl 1 rfl) ?_
            refine caI K hw (c_X5_inField l D a cA _ _) hl.1 (tt_V km_X5_38 kI_X5_inField ks_X5_inField ki_X5 kC_X5_inField) 1 (ci := 5) rfl rfl rfl (na := 1) rfl (by decide +kernel) ⟨rfl, rfl⟩ (by decide) ⟨Nat.zero_le _, Nat.zero_le _⟩ rfl (Nat.le_of_ble_eq_true rfl) dX5_accept_86 (fun H locs hw => ?_)
            obtain ⟨s86, es86, hw⟩ := nmD hw
            have eq9 : f_X5_accept σ0 x1 = (s86, (f_X5_inField σ0 x1).2) := (by subst es86; exact (Eq.trans (if_pos c4) (Eq.trans (if_neg c33) (Eq.trans (if_neg c47_1) (Eq.trans (if_neg c47_2) (Eq.trans (if_pos c47_3) rfl))))))
            exact ret (congrArg (fun z => pdW a cA z.1) eq9) (congrArg (fun z => z.2) eq9) hw dX5_accept_89
          · refine lv_tableOut (tgt := 90) K.1 K.2.1 dX5_accept_47 (by have h0 := lv_neT c47_1 (a := 1) rfl; have h1 := lv_neT c47_2 (a := 2) rfl; have h2 := lv_neT c47_3 (a := 3) rfl; omega) (by decide) ?_
            refine lv_iload_n K.1 K.2.1 dX5_accept_90 rfl (lv_at hl 1 rfl) ?_
            refine lv_bipush (v := 32) K.1 K.2.1 dX5_accept_91 (by decide) ?_
            refine lv_icmp_lt (tgt := 100) K.1 K.2.1 dX5_accept_93 (by decide) (fun c93 => ?_) (fun c93 => ?_)
            · refine lv_iconst (v := 2) K.1 K.2.1 dX5_accept_100 (by decide) ?_
              have eq9 : f_X5_accept σ0 x1 = (σ0, 2) := (by exact (Eq.trans (if_pos c4) (Eq.trans (if_neg c33) (Eq.trans (if_neg c47_1) (Eq.trans (if_neg c47_2) (Eq.trans (if_neg c47_3) (Eq.trans (if_pos c93) rfl)))))))
              exact ret (congrArg (fun z => pdW a cA z.1) eq9) (congrArg (fun z => z.2) eq9) hw dX5_accept_101
            · refine lv_iconst (v := 1) K.1 K.2.1 dX5_accept_96 (by decide) ?_
              refine lv_goto (tgt := 101) K.1 K.2.1 dX5_accept_97 (by decide) ?_
              have eq9 : f_X5_accept σ0 x1 = (σ0, 1) := (by exact (Eq.trans (if_pos c4) (Eq.trans (if_neg c33) (Eq.trans (if_neg c47_1) (Eq.trans (if_neg c47_2) (Eq.trans (if_neg c47_3) (Eq.trans (if_neg c93) rfl)))))))
              exact ret (congrArg (fun z => pdW a cA z.1) eq9) (congrArg (fun z => z.2) eq9) hw dX5_accept_101
    · refine lv_aload_n K.1 K.2.1 dX5_accept_36 rfl (lv_at hl 0 rfl) ?_
      refine lv_iconst (v := 1) K.1 K.2.1 dX5_accept_37 (by decide) ?_
      refine pD_1_6 K hw kf_X5_9 dX5_accept_38 (fun H locs hw => ?_)
      refine lv_iconst (v := 0) K.1 K.2.1 dX5_accept_41 (by decide) ?_
      have eq9 : f_X5_accept σ0 x1 = ((upS σ0 6 1), 0) := (by exact (Eq.trans (if_pos c4) (Eq.trans (if_pos c33) rfl)))
      exact ret (congrArg (fun z => pdW a cA z.1) eq9) (congrArg (fun z => z.2) eq9) hw dX5_accept_42
  · refine lv_aload_n K.1 K.2.1 dX5_accept_7 rfl (lv_at hl 0 rfl) ?_
    refine lv_dup K.1 K.2.1 dX5_accept_8 rfl ?_
    refine gD_1_5 K hw kf_X5_15 dX5_accept_9 ?_
    refine lv_iconst (v := 1) K.1 K.2.1 dX5_accept_12 (by decide) ?_
    refine lv_isub K.1 K.2.1 dX5_accept_13 ?_
    refine pD_1_5 K hw kf_X5_15 dX5_accept_14 (fun H locs hw => ?_)
    refine lv_aload_n K.1 K.2.1 dX5_accept_17 rfl (lv_at hl 0 rfl) ?_
    refine caI K hw (c_X5_hasText l D a cA _) hl.1 (tt_V km_X5_27 kI_X5_hasText ks_X5_hasText ki_X5 kC_X5_hasText) 1 (ci := 5) rfl rfl rfl (na := 0) rfl (by decide +kernel) ⟨rfl, rfl⟩ (by decide) ⟨Nat.zero_le _, Nat.zero_le _⟩ rfl (Nat.le_of_ble_eq_true rfl) dX5_accept_18 (fun H locs hw => ?_)
    refine lv_if_eq (tgt := 28) K.1 K.2.1 dX5_accept_21 (by decide) (fun c21 => ?_) (fun c21 => ?_)
    · refine lv_iconst (v := 5) K.1 K.2.1 dX5_accept_28 (by decide) ?_
      have eq9 : f_X5_accept σ0 x1 = ((upS σ0 5 ((σ0.1 5) - 1)), 5) := (by exact (Eq.trans (if_neg c4) (Eq.trans (if_pos c21) rfl)))
      exact ret (congrArg (fun z => pdW a cA z.1) eq9) (congrArg (fun z => z.2) eq9) hw dX5_accept_29
    · refine lv_iconst (v := 1) K.1 K.2.1 dX5_accept_24 (by decide) ?_
      refine lv_goto (tgt := 29) K.1 K.2.1 dX5_accept_25 (by decide) ?_
      have eq9 : f_X5_accept σ0 x1 = ((upS σ0 5 ((σ0.1 5) - 1)), 1) := (by exact (Eq.trans (if_neg c4) (Eq.trans (if_neg c21) rfl)))
      exact ret (congrArg (fun z => pdW a cA z.1) eq9) (congrArg (fun z => z.2) eq9) hw dX5_accept_29
end
