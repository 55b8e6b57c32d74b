section
-- ===== PART A: goes FIRST, ahead of the names: the tables' words, and 'selects' of the private methods out of them =====
/-- a private method of a class that the tables say can be made, by its rows of tables_1 -/
def lw_okq (q : MethodName × Nat) : Prop := (q.1.cls ≠ "java/lang/invoke/MethodHandle" ∧ q.1.cls ≠ "java/lang/invoke/VarHandle") ∧ Cond.instantiable q.1.cls q.2 ∈ tables_1 ∧ Cond.privateMethod q.1 ∈ tables_1 ∧ Cond.instanceMethod q.1 ∈ tables_1
theorem lw_p0 : lw_okq (⟨"java/lang/Throwable", "fillInStackTrace", "(I)Ljava/lang/Throwable;"⟩, 6) := ⟨⟨by decide +kernel, by decide +kernel⟩, List.mem_of_getElem? (i := 411) (by decide +kernel), List.mem_of_getElem? (i := 409) (by decide +kernel), List.mem_of_getElem? (i := 410) (by decide +kernel)⟩
theorem lw_p1 : lw_okq (⟨"RescanDesk", "begin", "()V"⟩, 8) := ⟨⟨by decide +kernel, by decide +kernel⟩, List.mem_of_getElem? (i := 27) (by decide +kernel), List.mem_of_getElem? (i := 436) (by decide +kernel), List.mem_of_getElem? (i := 437) (by decide +kernel)⟩
theorem lw_p2 : lw_okq (⟨"RescanDesk", "read", "()I"⟩, 8) := ⟨⟨by decide +kernel, by decide +kernel⟩, List.mem_of_getElem? (i := 27) (by decide +kernel), List.mem_of_getElem? (i := 461) (by decide +kernel), List.mem_of_getElem? (i := 462) (by decide +kernel)⟩
theorem lw_p3 : lw_okq (⟨"RescanDesk", "readQuote", "()I"⟩, 8) := ⟨⟨by decide +kernel, by decide +kernel⟩, List.mem_of_getElem? (i := 27) (by decide +kernel), List.mem_of_getElem? (i := 465) (by decide +kernel), List.mem_of_getElem? (i := 466) (by decide +kernel)⟩
theorem lw_p4 : lw_okq (⟨"RescanDesk", "write", "(II)I"⟩, 8) := ⟨⟨by decide +kernel, by decide +kernel⟩, List.mem_of_getElem? (i := 27) (by decide +kernel), List.mem_of_getElem? (i := 477) (by decide +kernel), List.mem_of_getElem? (i := 478) (by decide +kernel)⟩
theorem lw_p5 : lw_okq (⟨"RescanDesk", "readName", "()I"⟩, 8) := ⟨⟨by decide +kernel, by decide +kernel⟩, List.mem_of_getElem? (i := 27) (by decide +kernel), List.mem_of_getElem? (i := 496) (by decide +kernel), List.mem_of_getElem? (i := 497) (by decide +kernel)⟩
theorem lw_p6 : lw_okq (⟨"RescanDesk", "readInCall", "(LRescanDesk$Call;C)I"⟩, 8) := ⟨⟨by decide +kernel, by decide +kernel⟩, List.mem_of_getElem? (i := 27) (by decide +kernel), List.mem_of_getElem? (i := 531) (by decide +kernel), List.mem_of_getElem? (i := 532) (by decide +kernel)⟩
theorem lw_p7 : lw_okq (⟨"RescanDesk$Expander", "makeBody", "(LRescanDesk$Call;)V"⟩, 5) := ⟨⟨by decide +kernel, by decide +kernel⟩, List.mem_of_getElem? (i := 266) (by decide +kernel), List.mem_of_getElem? (i := 552) (by decide +kernel), List.mem_of_getElem? (i := 553) (by decide +kernel)⟩
theorem lw_p8 : lw_okq (⟨"RescanDesk$Expander", "makeParameter", "(LRescanDesk$Call;C)Z"⟩, 5) := ⟨⟨by decide +kernel, by decide +kernel⟩, List.mem_of_getElem? (i := 266) (by decide +kernel), List.mem_of_getElem? (i := 556) (by decide +kernel), List.mem_of_getElem? (i := 557) (by decide +kernel)⟩
theorem lw_p9 : lw_okq (⟨"RescanDesk$Expander", "makeArgument", "(LRescanDesk$Call;I)V"⟩, 5) := ⟨⟨by decide +kernel, by decide +kernel⟩, List.mem_of_getElem? (i := 266) (by decide +kernel), List.mem_of_getElem? (i := 562) (by decide +kernel), List.mem_of_getElem? (i := 563) (by decide +kernel)⟩
theorem lw_p10 : lw_okq (⟨"RescanDesk$Expander", "makeList", "(LRescanDesk$Call;IZ)V"⟩, 5) := ⟨⟨by decide +kernel, by decide +kernel⟩, List.mem_of_getElem? (i := 266) (by decide +kernel), List.mem_of_getElem? (i := 582) (by decide +kernel), List.mem_of_getElem? (i := 583) (by decide +kernel)⟩
theorem lw_p11 : lw_okq (⟨"RescanDesk$Expander", "act", "(LRescanDesk$Call;LRescanDesk$BuiltIn;)I"⟩, 5) := ⟨⟨by decide +kernel, by decide +kernel⟩, List.mem_of_getElem? (i := 266) (by decide +kernel), List.mem_of_getElem? (i := 587) (by decide +kernel), List.mem_of_getElem? (i := 588) (by decide +kernel)⟩
theorem lw_p12 : lw_okq (⟨"RescanDesk$Expander", "define", "(LRescanDesk$Call;Z)I"⟩, 5) := ⟨⟨by decide +kernel, by decide +kernel⟩, List.mem_of_getElem? (i := 266) (by decide +kernel), List.mem_of_getElem? (i := 599) (by decide +kernel), List.mem_of_getElem? (i := 600) (by decide +kernel)⟩
theorem lw_p13 : lw_okq (⟨"RescanDesk$Expander", "placeOfFirst", "(LRescanDesk$Call;)I"⟩, 5) := ⟨⟨by decide +kernel, by decide +kernel⟩, List.mem_of_getElem? (i := 266) (by decide +kernel), List.mem_of_getElem? (i := 612) (by decide +kernel), List.mem_of_getElem? (i := 613) (by decide +kernel)⟩
theorem lw_p14 : lw_okq (⟨"RescanDesk$Table", "remove", "(I)V"⟩, 2) := ⟨⟨by decide +kernel, by decide +kernel⟩, List.mem_of_getElem? (i := 99) (by decide +kernel), List.mem_of_getElem? (i := 630) (by decide +kernel), List.mem_of_getElem? (i := 631) (by decide +kernel)⟩
theorem lw_p15 : lw_okq (⟨"RescanDesk$Expander", "undivert", "(LRescanDesk$Call;)I"⟩, 5) := ⟨⟨by decide +kernel, by decide +kernel⟩, List.mem_of_getElem? (i := 266) (by decide +kernel), List.mem_of_getElem? (i := 651) (by decide +kernel), List.mem_of_getElem? (i := 652) (by decide +kernel)⟩
def lw_privs_1 : List (MethodName × Nat) := [(⟨"java/lang/Throwable", "fillInStackTrace", "(I)Ljava/lang/Throwable;"⟩, 6), (⟨"RescanDesk", "begin", "()V"⟩, 8), (⟨"RescanDesk", "read", "()I"⟩, 8), (⟨"RescanDesk", "readQuote", "()I"⟩, 8), (⟨"RescanDesk", "write", "(II)I"⟩, 8), (⟨"RescanDesk", "readName", "()I"⟩, 8), (⟨"RescanDesk", "readInCall", "(LRescanDesk$Call;C)I"⟩, 8), (⟨"RescanDesk$Expander", "makeBody", "(LRescanDesk$Call;)V"⟩, 5), (⟨"RescanDesk$Expander", "makeParameter", "(LRescanDesk$Call;C)Z"⟩, 5), (⟨"RescanDesk$Expander", "makeArgument", "(LRescanDesk$Call;I)V"⟩, 5), (⟨"RescanDesk$Expander", "makeList", "(LRescanDesk$Call;IZ)V"⟩, 5), (⟨"RescanDesk$Expander", "act", "(LRescanDesk$Call;LRescanDesk$BuiltIn;)I"⟩, 5), (⟨"RescanDesk$Expander", "define", "(LRescanDesk$Call;Z)I"⟩, 5), (⟨"RescanDesk$Expander", "placeOfFirst", "(LRescanDesk$Call;)I"⟩, 5), (⟨"RescanDesk$Table", "remove", "(I)V"⟩, 2), (⟨"RescanDesk$Expander", "undivert", "(LRescanDesk$Call;)I"⟩, 5)]
theorem lw_r1 : ∀ q ∈ lw_privs_1, lw_okq q := List.forall_mem_cons.mpr ⟨lw_p0, List.forall_mem_cons.mpr ⟨lw_p1, List.forall_mem_cons.mpr ⟨lw_p2, List.forall_mem_cons.mpr ⟨lw_p3, List.forall_mem_cons.mpr ⟨lw_p4, List.forall_mem_cons.mpr ⟨lw_p5, List.forall_mem_cons.mpr ⟨lw_p6, List.forall_mem_cons.mpr ⟨lw_p7, List.forall_mem_cons.mpr ⟨lw_p8, List.forall_mem_cons.mpr ⟨lw_p9, List.forall_mem_cons.mpr ⟨lw_p10, List.forall_mem_cons.mpr ⟨lw_p11, List.forall_mem_cons.mpr ⟨lw_p12, List.forall_mem_cons.mpr ⟨lw_p13, List.forall_mem_cons.mpr ⟨lw_p14, List.forall_mem_cons.mpr ⟨lw_p15, fun _ h => absurd h List.not_mem_nil⟩⟩⟩⟩⟩⟩⟩⟩⟩⟩⟩⟩⟩⟩⟩⟩
theorem lw_p16 : lw_okq (⟨"RescanDesk$Expression", "level", "(II)J"⟩, 4) := ⟨⟨by decide +kernel, by decide +kernel⟩, List.mem_of_getElem? (i := 272) (by decide +kernel), List.mem_of_getElem? (i := 681) (by decide +kernel), List.mem_of_getElem? (i := 682) (by decide +kernel)⟩
theorem lw_p17 : lw_okq (⟨"RescanDesk$Expression", "operand", "(I)J"⟩, 4) := ⟨⟨by decide +kernel, by decide +kernel⟩, List.mem_of_getElem? (i := 272) (by decide +kernel), List.mem_of_getElem? (i := 685) (by decide +kernel), List.mem_of_getElem? (i := 686) (by decide +kernel)⟩
theorem lw_p18 : lw_okq (⟨"RescanDesk$Expression", "number", "()J"⟩, 4) := ⟨⟨by decide +kernel, by decide +kernel⟩, List.mem_of_getElem? (i := 272) (by decide +kernel), List.mem_of_getElem? (i := 689) (by decide +kernel), List.mem_of_getElem? (i := 690) (by decide +kernel)⟩
theorem lw_p19 : lw_okq (⟨"RescanDesk$Expression", "combine", "(CJJ)J"⟩, 4) := ⟨⟨by decide +kernel, by decide +kernel⟩, List.mem_of_getElem? (i := 272) (by decide +kernel), List.mem_of_getElem? (i := 698) (by decide +kernel), List.mem_of_getElem? (i := 699) (by decide +kernel)⟩
theorem lw_p20 : lw_okq (⟨"RescanDesk$Expression", "divide", "(CJJ)J"⟩, 4) := ⟨⟨by decide +kernel, by decide +kernel⟩, List.mem_of_getElem? (i := 272) (by decide +kernel), List.mem_of_getElem? (i := 705) (by decide +kernel), List.mem_of_getElem? (i := 706) (by decide +kernel)⟩
theorem lw_p21 : lw_okq (⟨"RescanDesk$Expander", "makeText", "(LRescanDesk$Call;LRescanDesk$BuiltIn;)V"⟩, 5) := ⟨⟨by decide +kernel, by decide +kernel⟩, List.mem_of_getElem? (i := 266) (by decide +kernel), List.mem_of_getElem? (i := 710) (by decide +kernel), List.mem_of_getElem? (i := 711) (by decide +kernel)⟩
theorem lw_p22 : lw_okq (⟨"RescanDesk$Expander", "chosen", "(LRescanDesk$Call;)I"⟩, 5) := ⟨⟨by decide +kernel, by decide +kernel⟩, List.mem_of_getElem? (i := 266) (by decide +kernel), List.mem_of_getElem? (i := 714) (by decide +kernel), List.mem_of_getElem? (i := 715) (by decide +kernel)⟩
theorem lw_p23 : lw_okq (⟨"RescanDesk$Expander", "makePart", "(LRescanDesk$Call;)V"⟩, 5) := ⟨⟨by decide +kernel, by decide +kernel⟩, List.mem_of_getElem? (i := 266) (by decide +kernel), List.mem_of_getElem? (i := 727) (by decide +kernel), List.mem_of_getElem? (i := 728) (by decide +kernel)⟩
theorem lw_p24 : lw_okq (⟨"RescanDesk$Expander", "index", "(LRescanDesk$Call;)I"⟩, 5) := ⟨⟨by decide +kernel, by decide +kernel⟩, List.mem_of_getElem? (i := 266) (by decide +kernel), List.mem_of_getElem? (i := 737) (by decide +kernel), List.mem_of_getElem? (i := 738) (by decide +kernel)⟩
theorem lw_p25 : lw_okq (⟨"RescanDesk", "finish", "()I"⟩, 8) := ⟨⟨by decide +kernel, by decide +kernel⟩, List.mem_of_getElem? (i := 27) (by decide +kernel), List.mem_of_getElem? (i := 743) (by decide +kernel), List.mem_of_getElem? (i := 744) (by decide +kernel)⟩
theorem lw_p26 : lw_okq (⟨"RescanDeskModel", "built", "(JI)V"⟩, 38) := ⟨⟨by decide +kernel, by decide +kernel⟩, List.mem_of_getElem? (i := 775) (by decide +kernel), List.mem_of_getElem? (i := 782) (by decide +kernel), List.mem_of_getElem? (i := 783) (by decide +kernel)⟩
theorem lw_p27 : lw_okq (⟨"RescanDeskModel", "stop", "(I)V"⟩, 38) := ⟨⟨by decide +kernel, by decide +kernel⟩, List.mem_of_getElem? (i := 775) (by decide +kernel), List.mem_of_getElem? (i := 942) (by decide +kernel), List.mem_of_getElem? (i := 943) (by decide +kernel)⟩
theorem lw_p28 : lw_okq (⟨"RescanDeskModel", "step", "()V"⟩, 38) := ⟨⟨by decide +kernel, by decide +kernel⟩, List.mem_of_getElem? (i := 775) (by decide +kernel), List.mem_of_getElem? (i := 946) (by decide +kernel), List.mem_of_getElem? (i := 947) (by decide +kernel)⟩
theorem lw_p29 : lw_okq (⟨"RescanDeskModel", "next", "(I)I"⟩, 38) := ⟨⟨by decide +kernel, by decide +kernel⟩, List.mem_of_getElem? (i := 775) (by decide +kernel), List.mem_of_getElem? (i := 950) (by decide +kernel), List.mem_of_getElem? (i := 951) (by decide +kernel)⟩
theorem lw_p30 : lw_okq (⟨"RescanDeskModel", "quoted", "()V"⟩, 38) := ⟨⟨by decide +kernel, by decide +kernel⟩, List.mem_of_getElem? (i := 775) (by decide +kernel), List.mem_of_getElem? (i := 954) (by decide +kernel), List.mem_of_getElem? (i := 955) (by decide +kernel)⟩
theorem lw_p31 : lw_okq (⟨"RescanDeskModel", "write", "(C)V"⟩, 38) := ⟨⟨by decide +kernel, by decide +kernel⟩, List.mem_of_getElem? (i := 775) (by decide +kernel), List.mem_of_getElem? (i := 958) (by decide +kernel), List.mem_of_getElem? (i := 959) (by decide +kernel)⟩
def lw_privs_2 : List (MethodName × Nat) := [(⟨"RescanDesk$Expression", "level", "(II)J"⟩, 4), (⟨"RescanDesk$Expression", "operand", "(I)J"⟩, 4), (⟨"RescanDesk$Expression", "number", "()J"⟩, 4), (⟨"RescanDesk$Expression", "combine", "(CJJ)J"⟩, 4), (⟨"RescanDesk$Expression", "divide", "(CJJ)J"⟩, 4), (⟨"RescanDesk$Expander", "makeText", "(LRescanDesk$Call;LRescanDesk$BuiltIn;)V"⟩, 5), (⟨"RescanDesk$Expander", "chosen", "(LRescanDesk$Call;)I"⟩, 5), (⟨"RescanDesk$Expander", "makePart", "(LRescanDesk$Call;)V"⟩, 5), (⟨"RescanDesk$Expander", "index", "(LRescanDesk$Call;)I"⟩, 5), (⟨"RescanDesk", "finish", "()I"⟩, 8), (⟨"RescanDeskModel", "built", "(JI)V"⟩, 38), (⟨"RescanDeskModel", "stop", "(I)V"⟩, 38), (⟨"RescanDeskModel", "step", "()V"⟩, 38), (⟨"RescanDeskModel", "next", "(I)I"⟩, 38), (⟨"RescanDeskModel", "quoted", "()V"⟩, 38), (⟨"RescanDeskModel", "write", "(C)V"⟩, 38)]
theorem lw_r2 : ∀ q ∈ lw_privs_2, lw_okq q := List.forall_mem_cons.mpr ⟨lw_p16, List.forall_mem_cons.mpr ⟨lw_p17, List.forall_mem_cons.mpr ⟨lw_p18, List.forall_mem_cons.mpr ⟨lw_p19, List.forall_mem_cons.mpr ⟨lw_p20, List.forall_mem_cons.mpr ⟨lw_p21, List.forall_mem_cons.mpr ⟨lw_p22, List.forall_mem_cons.mpr ⟨lw_p23, List.forall_mem_cons.mpr ⟨lw_p24, List.forall_mem_cons.mpr ⟨lw_p25, List.forall_mem_cons.mpr ⟨lw_p26, List.forall_mem_cons.mpr ⟨lw_p27, List.forall_mem_cons.mpr ⟨lw_p28, List.forall_mem_cons.mpr ⟨lw_p29, List.forall_mem_cons.mpr ⟨lw_p30, List.forall_mem_cons.mpr ⟨lw_p31, fun _ h => absurd h List.not_mem_nil⟩⟩⟩⟩⟩⟩⟩⟩⟩⟩⟩⟩⟩⟩⟩⟩
theorem lw_p32 : lw_okq (⟨"RescanDeskModel", "named", "()V"⟩, 38) := ⟨⟨by decide +kernel, by decide +kernel⟩, List.mem_of_getElem? (i := 775) (by decide +kernel), List.mem_of_getElem? (i := 965) (by decide +kernel), List.mem_of_getElem? (i := 966) (by decide +kernel)⟩
theorem lw_p33 : lw_okq (⟨"RescanDeskModel", "find", "([CII)I"⟩, 38) := ⟨⟨by decide +kernel, by decide +kernel⟩, List.mem_of_getElem? (i := 775) (by decide +kernel), List.mem_of_getElem? (i := 972) (by decide +kernel), List.mem_of_getElem? (i := 973) (by decide +kernel)⟩
theorem lw_p34 : lw_okq (⟨"RescanDeskModel", "isNamed", "(I[CII)Z"⟩, 38) := ⟨⟨by decide +kernel, by decide +kernel⟩, List.mem_of_getElem? (i := 775) (by decide +kernel), List.mem_of_getElem? (i := 976) (by decide +kernel), List.mem_of_getElem? (i := 977) (by decide +kernel)⟩
theorem lw_p35 : lw_okq (⟨"RescanDeskModel", "begin", "(II)V"⟩, 38) := ⟨⟨by decide +kernel, by decide +kernel⟩, List.mem_of_getElem? (i := 775) (by decide +kernel), List.mem_of_getElem? (i := 980) (by decide +kernel), List.mem_of_getElem? (i := 981) (by decide +kernel)⟩
theorem lw_p36 : lw_okq (⟨"RescanDeskModel", "expand", "()V"⟩, 38) := ⟨⟨by decide +kernel, by decide +kernel⟩, List.mem_of_getElem? (i := 775) (by decide +kernel), List.mem_of_getElem? (i := 984) (by decide +kernel), List.mem_of_getElem? (i := 985) (by decide +kernel)⟩
theorem lw_p37 : lw_okq (⟨"RescanDeskModel", "putBody", "()V"⟩, 38) := ⟨⟨by decide +kernel, by decide +kernel⟩, List.mem_of_getElem? (i := 775) (by decide +kernel), List.mem_of_getElem? (i := 988) (by decide +kernel), List.mem_of_getElem? (i := 989) (by decide +kernel)⟩
theorem lw_p38 : lw_okq (⟨"RescanDeskModel", "put", "(C)V"⟩, 38) := ⟨⟨by decide +kernel, by decide +kernel⟩, List.mem_of_getElem? (i := 775) (by decide +kernel), List.mem_of_getElem? (i := 992) (by decide +kernel), List.mem_of_getElem? (i := 993) (by decide +kernel)⟩
theorem lw_p39 : lw_okq (⟨"RescanDeskModel", "putNumber", "(J)V"⟩, 38) := ⟨⟨by decide +kernel, by decide +kernel⟩, List.mem_of_getElem? (i := 775) (by decide +kernel), List.mem_of_getElem? (i := 996) (by decide +kernel), List.mem_of_getElem? (i := 997) (by decide +kernel)⟩
theorem lw_p40 : lw_okq (⟨"RescanDeskModel", "putAll", "(IZ)V"⟩, 38) := ⟨⟨by decide +kernel, by decide +kernel⟩, List.mem_of_getElem? (i := 775) (by decide +kernel), List.mem_of_getElem? (i := 1002) (by decide +kernel), List.mem_of_getElem? (i := 1003) (by decide +kernel)⟩
theorem lw_p41 : lw_okq (⟨"RescanDeskModel", "putArgument", "(I)V"⟩, 38) := ⟨⟨by decide +kernel, by decide +kernel⟩, List.mem_of_getElem? (i := 775) (by decide +kernel), List.mem_of_getElem? (i := 1006) (by decide +kernel), List.mem_of_getElem? (i := 1007) (by decide +kernel)⟩
theorem lw_p42 : lw_okq (⟨"RescanDeskModel", "length", "(I)I"⟩, 38) := ⟨⟨by decide +kernel, by decide +kernel⟩, List.mem_of_getElem? (i := 775) (by decide +kernel), List.mem_of_getElem? (i := 1010) (by decide +kernel), List.mem_of_getElem? (i := 1011) (by decide +kernel)⟩
theorem lw_p43 : lw_okq (⟨"RescanDeskModel", "from", "(I)I"⟩, 38) := ⟨⟨by decide +kernel, by decide +kernel⟩, List.mem_of_getElem? (i := 775) (by decide +kernel), List.mem_of_getElem? (i := 1014) (by decide +kernel), List.mem_of_getElem? (i := 1015) (by decide +kernel)⟩
theorem lw_p44 : lw_okq (⟨"RescanDeskModel", "carryOut", "(I)V"⟩, 38) := ⟨⟨by decide +kernel, by decide +kernel⟩, List.mem_of_getElem? (i := 775) (by decide +kernel), List.mem_of_getElem? (i := 1018) (by decide +kernel), List.mem_of_getElem? (i := 1019) (by decide +kernel)⟩
theorem lw_p45 : lw_okq (⟨"RescanDeskModel", "define", "(Z)V"⟩, 38) := ⟨⟨by decide +kernel, by decide +kernel⟩, List.mem_of_getElem? (i := 775) (by decide +kernel), List.mem_of_getElem? (i := 1022) (by decide +kernel), List.mem_of_getElem? (i := 1023) (by decide +kernel)⟩
theorem lw_p46 : lw_okq (⟨"RescanDeskModel", "isName", "(I)Z"⟩, 38) := ⟨⟨by decide +kernel, by decide +kernel⟩, List.mem_of_getElem? (i := 775) (by decide +kernel), List.mem_of_getElem? (i := 1026) (by decide +kernel), List.mem_of_getElem? (i := 1027) (by decide +kernel)⟩
theorem lw_p47 : lw_okq (⟨"RescanDeskModel", "undefine", "(Z)V"⟩, 38) := ⟨⟨by decide +kernel, by decide +kernel⟩, List.mem_of_getElem? (i := 775) (by decide +kernel), List.mem_of_getElem? (i := 1030) (by decide +kernel), List.mem_of_getElem? (i := 1031) (by decide +kernel)⟩
def lw_privs_3 : List (MethodName × Nat) := [(⟨"RescanDeskModel", "named", "()V"⟩, 38), (⟨"RescanDeskModel", "find", "([CII)I"⟩, 38), (⟨"RescanDeskModel", "isNamed", "(I[CII)Z"⟩, 38), (⟨"RescanDeskModel", "begin", "(II)V"⟩, 38), (⟨"RescanDeskModel", "expand", "()V"⟩, 38), (⟨"RescanDeskModel", "putBody", "()V"⟩, 38), (⟨"RescanDeskModel", "put", "(C)V"⟩, 38), (⟨"RescanDeskModel", "putNumber", "(J)V"⟩, 38), (⟨"RescanDeskModel", "putAll", "(IZ)V"⟩, 38), (⟨"RescanDeskModel", "putArgument", "(I)V"⟩, 38), (⟨"RescanDeskModel", "length", "(I)I"⟩, 38), (⟨"RescanDeskModel", "from", "(I)I"⟩, 38), (⟨"RescanDeskModel", "carryOut", "(I)V"⟩, 38), (⟨"RescanDeskModel", "define", "(Z)V"⟩, 38), (⟨"RescanDeskModel", "isName", "(I)Z"⟩, 38), (⟨"RescanDeskModel", "undefine", "(Z)V"⟩, 38)]
theorem lw_r3 : ∀ q ∈ lw_privs_3, lw_okq q := List.forall_mem_cons.mpr ⟨lw_p32, List.forall_mem_cons.mpr ⟨lw_p33, List.forall_mem_cons.mpr ⟨lw_p34, List.forall_mem_cons.mpr ⟨lw_p35, List.forall_mem_cons.mpr ⟨lw_p36, List.forall_mem_cons.mpr ⟨lw_p37, List.forall_mem_cons.mpr ⟨lw_p38, List.forall_mem_cons.mpr ⟨lw_p39, List.forall_mem_cons.mpr ⟨lw_p40, List.forall_mem_cons.mpr ⟨lw_p41, List.forall_mem_cons.mpr ⟨lw_p42, List.forall_mem_cons.mpr ⟨lw_p43, List.forall_mem_cons.mpr ⟨lw_p44, List.forall_mem_cons.mpr ⟨lw_p45, List.forall_mem_cons.mpr ⟨lw_p46, List.forall_mem_cons.mpr ⟨lw_p47, fun _ h => absurd h List.not_mem_nil⟩⟩⟩⟩⟩⟩⟩⟩⟩⟩⟩⟩⟩⟩⟩⟩
theorem lw_p48 : lw_okq (⟨"RescanDeskModel", "move", "(II)V"⟩, 38) := ⟨⟨by decide +kernel, by decide +kernel⟩, List.mem_of_getElem? (i := 775) (by decide +kernel), List.mem_of_getElem? (i := 1034) (by decide +kernel), List.mem_of_getElem? (i := 1035) (by decide +kernel)⟩
theorem lw_p49 : lw_okq (⟨"RescanDeskModel", "choose", "()V"⟩, 38) := ⟨⟨by decide +kernel, by decide +kernel⟩, List.mem_of_getElem? (i := 775) (by decide +kernel), List.mem_of_getElem? (i := 1038) (by decide +kernel), List.mem_of_getElem? (i := 1039) (by decide +kernel)⟩
theorem lw_p50 : lw_okq (⟨"RescanDeskModel", "areEqual", "(II)Z"⟩, 38) := ⟨⟨by decide +kernel, by decide +kernel⟩, List.mem_of_getElem? (i := 775) (by decide +kernel), List.mem_of_getElem? (i := 1042) (by decide +kernel), List.mem_of_getElem? (i := 1043) (by decide +kernel)⟩
theorem lw_p51 : lw_okq (⟨"RescanDeskModel", "value", "(I)J"⟩, 38) := ⟨⟨by decide +kernel, by decide +kernel⟩, List.mem_of_getElem? (i := 775) (by decide +kernel), List.mem_of_getElem? (i := 1046) (by decide +kernel), List.mem_of_getElem? (i := 1047) (by decide +kernel)⟩
theorem lw_p52 : lw_okq (⟨"RescanDeskModel", "reckon", "()V"⟩, 38) := ⟨⟨by decide +kernel, by decide +kernel⟩, List.mem_of_getElem? (i := 775) (by decide +kernel), List.mem_of_getElem? (i := 1050) (by decide +kernel), List.mem_of_getElem? (i := 1051) (by decide +kernel)⟩
theorem lw_p53 : lw_okq (⟨"RescanDeskModel", "whole", "()V"⟩, 38) := ⟨⟨by decide +kernel, by decide +kernel⟩, List.mem_of_getElem? (i := 775) (by decide +kernel), List.mem_of_getElem? (i := 1054) (by decide +kernel), List.mem_of_getElem? (i := 1055) (by decide +kernel)⟩
theorem lw_p54 : lw_okq (⟨"RescanDeskModel", "settle", "(I)V"⟩, 38) := ⟨⟨by decide +kernel, by decide +kernel⟩, List.mem_of_getElem? (i := 775) (by decide +kernel), List.mem_of_getElem? (i := 1058) (by decide +kernel), List.mem_of_getElem? (i := 1059) (by decide +kernel)⟩
theorem lw_p55 : lw_okq (⟨"RescanDeskModel", "made", "(IJJ)J"⟩, 38) := ⟨⟨by decide +kernel, by decide +kernel⟩, List.mem_of_getElem? (i := 775) (by decide +kernel), List.mem_of_getElem? (i := 1065) (by decide +kernel), List.mem_of_getElem? (i := 1066) (by decide +kernel)⟩
theorem lw_p56 : lw_okq (⟨"RescanDeskModel", "cut", "()V"⟩, 38) := ⟨⟨by decide +kernel, by decide +kernel⟩, List.mem_of_getElem? (i := 775) (by decide +kernel), List.mem_of_getElem? (i := 1069) (by decide +kernel), List.mem_of_getElem? (i := 1070) (by decide +kernel)⟩
theorem lw_p57 : lw_okq (⟨"RescanDeskModel", "index", "()I"⟩, 38) := ⟨⟨by decide +kernel, by decide +kernel⟩, List.mem_of_getElem? (i := 775) (by decide +kernel), List.mem_of_getElem? (i := 1074) (by decide +kernel), List.mem_of_getElem? (i := 1075) (by decide +kernel)⟩
theorem lw_p58 : lw_okq (⟨"RescanDeskModel", "pour", "(II)V"⟩, 38) := ⟨⟨by decide +kernel, by decide +kernel⟩, List.mem_of_getElem? (i := 775) (by decide +kernel), List.mem_of_getElem? (i := 1079) (by decide +kernel), List.mem_of_getElem? (i := 1080) (by decide +kernel)⟩
theorem lw_p59 : lw_okq (⟨"RescanDeskModel", "gather", "(C)V"⟩, 38) := ⟨⟨by decide +kernel, by decide +kernel⟩, List.mem_of_getElem? (i := 775) (by decide +kernel), List.mem_of_getElem? (i := 1083) (by decide +kernel), List.mem_of_getElem? (i := 1084) (by decide +kernel)⟩
theorem lw_p60 : lw_okq (⟨"RescanDeskModel", "close", "()V"⟩, 38) := ⟨⟨by decide +kernel, by decide +kernel⟩, List.mem_of_getElem? (i := 775) (by decide +kernel), List.mem_of_getElem? (i := 1087) (by decide +kernel), List.mem_of_getElem? (i := 1088) (by decide +kernel)⟩
theorem lw_p61 : lw_okq (⟨"RescanDeskModel", "macros", "()I"⟩, 38) := ⟨⟨by decide +kernel, by decide +kernel⟩, List.mem_of_getElem? (i := 775) (by decide +kernel), List.mem_of_getElem? (i := 1095) (by decide +kernel), List.mem_of_getElem? (i := 1096) (by decide +kernel)⟩
def lw_privs_4 : List (MethodName × Nat) := [(⟨"RescanDeskModel", "move", "(II)V"⟩, 38), (⟨"RescanDeskModel", "choose", "()V"⟩, 38), (⟨"RescanDeskModel", "areEqual", "(II)Z"⟩, 38), (⟨"RescanDeskModel", "value", "(I)J"⟩, 38), (⟨"RescanDeskModel", "reckon", "()V"⟩, 38), (⟨"RescanDeskModel", "whole", "()V"⟩, 38), (⟨"RescanDeskModel", "settle", "(I)V"⟩, 38), (⟨"RescanDeskModel", "made", "(IJJ)J"⟩, 38), (⟨"RescanDeskModel", "cut", "()V"⟩, 38), (⟨"RescanDeskModel", "index", "()I"⟩, 38), (⟨"RescanDeskModel", "pour", "(II)V"⟩, 38), (⟨"RescanDeskModel", "gather", "(C)V"⟩, 38), (⟨"RescanDeskModel", "close", "()V"⟩, 38), (⟨"RescanDeskModel", "macros", "()I"⟩, 38)]
theorem lw_r4 : ∀ q ∈ lw_privs_4, lw_okq q := List.forall_mem_cons.mpr ⟨lw_p48, List.forall_mem_cons.mpr ⟨lw_p49, List.forall_mem_cons.mpr ⟨lw_p50, List.forall_mem_cons.mpr ⟨lw_p51, List.forall_mem_cons.mpr ⟨lw_p52, List.forall_mem_cons.mpr ⟨lw_p53, List.forall_mem_cons.mpr ⟨lw_p54, List.forall_mem_cons.mpr ⟨lw_p55, List.forall_mem_cons.mpr ⟨lw_p56, List.forall_mem_cons.mpr ⟨lw_p57, List.forall_mem_cons.mpr ⟨lw_p58, List.forall_mem_cons.mpr ⟨lw_p59, List.forall_mem_cons.mpr ⟨lw_p60, List.forall_mem_cons.mpr ⟨lw_p61, fun _ h => absurd h List.not_mem_nil⟩⟩⟩⟩⟩⟩⟩⟩⟩⟩⟩⟩⟩⟩
def lw_privs : List (MethodName × Nat) := lw_privs_1 ++ (lw_privs_2 ++ (lw_privs_3 ++ (lw_privs_4)))
def lw_tbl : List Cond := k2_sels lw_privs ++ tables_1
theorem lw_privs_ok : ∀ q ∈ lw_privs, lw_okq q := by
  show ∀ q ∈ lw_privs_1 ++ (lw_privs_2 ++ (lw_privs_3 ++ (lw_privs_4))), lw_okq q
  exact List.forall_mem_append.mpr ⟨lw_r1, List.forall_mem_append.mpr ⟨lw_r2, List.forall_mem_append.mpr ⟨lw_r3, lw_r4⟩⟩⟩
end
section
/-! names, fields and words of this system, written by wip/whole/names.py out of the Statement's own tables -/
abbrev aw_G : Type := Launch × va_G × Nat × (Nat → ClassId) × (Nat → Nat)
def aw_tbl : List Cond := lw_tbl.filter goodWord
def aw_isNest : Cond → Bool
  | .fieldLinkNest .. => true
  | .methodLinkNest .. => true
  | .arrayOver (.object _) => true
  | _ => false
def aw_nest : List Cond := lw_tbl.filter aw_isNest
theorem aw_in {c : Cond} (i : Nat) (h : lw_tbl[i]? = some c) (hg : goodWord c = true) : c ∈ aw_tbl := List.mem_filter.mpr ⟨List.mem_of_getElem? h, hg⟩
theorem aw_i0 {c : Cond} (i : Nat) (h : (k2_sels lw_privs)[i]? = some c) (hg : goodWord c = true) : c ∈ aw_tbl := List.mem_filter.mpr ⟨List.mem_append_left _ (List.mem_of_getElem? h), hg⟩
theorem aw_n0 {c : Cond} (i : Nat) (h : (k2_sels lw_privs)[i]? = some c) (hg : aw_isNest c = true) : c ∈ aw_nest := List.mem_filter.mpr ⟨List.mem_append_left _ (List.mem_of_getElem? h), hg⟩
theorem aw_i1 {c : Cond} (i : Nat) (h : (tables_1_1)[i]? = some c) (hg : goodWord c = true) : c ∈ aw_tbl := List.mem_filter.mpr ⟨List.mem_append_right _ (List.mem_append_left _ (List.mem_of_getElem? h)), hg⟩
theorem aw_n1 {c : Cond} (i : Nat) (h : (tables_1_1)[i]? = some c) (hg : aw_isNest c = true) : c ∈ aw_nest := List.mem_filter.mpr ⟨List.mem_append_right _ (List.mem_append_left _ (List.mem_of_getElem? h)), hg⟩
theorem aw_i2 {c : Cond} (i : Nat) (h : (tables_1_2)[i]? = some c) (hg : goodWord c = true) : c ∈ aw_tbl := List.mem_filter.mpr ⟨List.mem_append_right _ (List.mem_append_right _ (List.mem_append_left _ (List.mem_of_getElem? h))), hg⟩
theorem aw_n2 {c : Cond} (i : Nat) (h : (tables_1_2)[i]? = some c) (hg : aw_isNest c = true) : c ∈ aw_nest := List.mem_filter.mpr ⟨List.mem_append_right _ (List.mem_append_right _ (List.mem_append_left _ (List.mem_of_getElem? h))), hg⟩
theorem aw_i3 {c : Cond} (i : Nat) (h : (tables_1_3)[i]? = some c) (hg : goodWord c = true) : c ∈ aw_tbl := List.mem_filter.mpr ⟨List.mem_append_right _ (List.mem_append_right _ (List.mem_append_right _ (List.mem_append_left _ (List.mem_of_getElem? h)))), hg⟩
theorem aw_n3 {c : Cond} (i : Nat) (h : (tables_1_3)[i]? = some c) (hg : aw_isNest c = true) : c ∈ aw_nest := List.mem_filter.mpr ⟨List.mem_append_right _ (List.mem_append_right _ (List.mem_append_right _ (List.mem_append_left _ (List.mem_of_getElem? h)))), hg⟩
theorem aw_i4 {c : Cond} (i : Nat) (h : (tables_1_4)[i]? = some c) (hg : goodWord c = true) : c ∈ aw_tbl := List.mem_filter.mpr ⟨List.mem_append_right _ (List.mem_append_right _ (List.mem_append_right _ (List.mem_append_right _ (List.mem_append_left _ (List.mem_of_getElem? h))))), hg⟩
theorem aw_n4 {c : Cond} (i : Nat) (h : (tables_1_4)[i]? = some c) (hg : aw_isNest c = true) : c ∈ aw_nest := List.mem_filter.mpr ⟨List.mem_append_right _ (List.mem_append_right _ (List.mem_append_right _ (List.mem_append_right _ (List.mem_append_left _ (List.mem_of_getElem? h))))), hg⟩
theorem aw_i5 {c : Cond} (i : Nat) (h : (tables_1_5)[i]? = some c) (hg : goodWord c = true) : c ∈ aw_tbl := List.mem_filter.mpr ⟨List.mem_append_right _ (List.mem_append_right _ (List.mem_append_right _ (List.mem_append_right _ (List.mem_append_right _ ((List.mem_of_getElem? h)))))), hg⟩
theorem aw_n5 {c : Cond} (i : Nat) (h : (tables_1_5)[i]? = some c) (hg : aw_isNest c = true) : c ∈ aw_nest := List.mem_filter.mpr ⟨List.mem_append_right _ (List.mem_append_right _ (List.mem_append_right _ (List.mem_append_right _ (List.mem_append_right _ ((List.mem_of_getElem? h)))))), hg⟩
theorem aw_gd {k : Cond} (h : k ∈ aw_tbl) : GoodIn aw_tbl (k :: aw_tbl) := fun w hw => by
  have h1 : w ∈ aw_tbl := (List.mem_cons.mp hw).elim (fun e => e ▸ h) id
  exact ⟨h1, good_of_word (List.mem_filter.mp h1).2⟩
def aw_q1 (y : MethodName) (cc : ByteArray) (nL : Nat) (ret : Option FieldType) (n : Nat) : Prop := Cond.code y cc nL ret ∈ aw_tbl ∧ Cond.initialized y.cls ∈ aw_tbl ∧ (y.cls ≠ "java/lang/invoke/MethodHandle" ∧ y.cls ≠ "java/lang/invoke/VarHandle" ∧ (parseMethodDescriptor y.desc).map (fun d => d.parameters.length) = some n) ∧ nL ≤ 21
def R_Rd : String := "RescanDesk"
def T_Rd : u_T := fun k => match k with
  | 0 => ("RescanDesk", "text", "LRescanDesk$Text;", true)
  | 1 => ("RescanDesk", "front", "LRescanDesk$Front;", true)
  | 2 => ("RescanDesk", "rows", "LRescanDesk$Rows;", true)
  | 3 => ("RescanDesk", "table", "LRescanDesk$Table;", true)
  | 4 => ("RescanDesk", "calls", "LRescanDesk$Calls;", true)
  | 5 => ("RescanDesk", "expander", "LRescanDesk$Expander;", true)
  | 6 => ("RescanDesk", "ready", "LRescanDesk$Call;", false)
  | _ => ("RescanDesk", "steps", "I", false)
def ty_Rd : Nat → FieldType := fun k => match k with
  | 0 => (.object "RescanDesk$Text")
  | 1 => (.object "RescanDesk$Front")
  | 2 => (.object "RescanDesk$Rows")
  | 3 => (.object "RescanDesk$Table")
  | 4 => (.object "RescanDesk$Calls")
  | 5 => (.object "RescanDesk$Expander")
  | 6 => (.object "RescanDesk$Call")
  | _ => .int
theorem nm_Rd : ∀ a, a < 8 → ∀ b, b < 8 → a ≠ b → (T_Rd a).2.1 ≠ (T_Rd b).2.1 := by decide +kernel
theorem ok_Rd : ∀ k, k < 8 → parseFieldDescriptor (T_Rd k).2.2.1 = some (ty_Rd k) := by decide +kernel
def R_Tx : String := "RescanDesk$Text"
def T_Tx : u_T := fun k => match k with
  | 0 => ("RescanDesk$Text", "chars", "[C", true)
  | _ => ("RescanDesk$Text", "length", "I", false)
def ty_Tx : Nat → FieldType := fun k => match k with
  | 0 => (.array .char)
  | _ => .int
theorem nm_Tx : ∀ a, a < 2 → ∀ b, b < 2 → a ≠ b → (T_Tx a).2.1 ≠ (T_Tx b).2.1 := by decide +kernel
theorem ok_Tx : ∀ k, k < 2 → parseFieldDescriptor (T_Tx k).2.2.1 = some (ty_Tx k) := by decide +kernel
def R_Fr : String := "RescanDesk$Front"
def T_Fr : u_T := fun k => match k with
  | 0 => ("RescanDesk$Front", "chars", "[C", true)
  | _ => ("RescanDesk$Front", "start", "I", false)
def ty_Fr : Nat → FieldType := fun k => match k with
  | 0 => (.array .char)
  | _ => .int
theorem nm_Fr : ∀ a, a < 2 → ∀ b, b < 2 → a ≠ b → (T_Fr a).2.1 ≠ (T_Fr b).2.1 := by decide +kernel
theorem ok_Fr : ∀ k, k < 2 → parseFieldDescriptor (T_Fr k).2.2.1 = some (ty_Fr k) := by decide +kernel
def R_Ro : String := "RescanDesk$Rows"
def T_Ro : u_T := fun k => match k with
  | 0 => ("RescanDesk$Rows", "row", "[LRescanDesk$Text;", true)
  | _ => ("RescanDesk$Rows", "present", "I", false)
def ty_Ro : Nat → FieldType := fun k => match k with
  | 0 => (.array (.object "RescanDesk$Text"))
  | _ => .int
theorem nm_Ro : ∀ a, a < 2 → ∀ b, b < 2 → a ≠ b → (T_Ro a).2.1 ≠ (T_Ro b).2.1 := by decide +kernel
theorem ok_Ro : ∀ k, k < 2 → parseFieldDescriptor (T_Ro k).2.2.1 = some (ty_Ro k) := by decide +kernel
def R_Ta : String := "RescanDesk$Table"
def T_Ta : u_T := fun k => match k with
  | 0 => ("RescanDesk$Table", "definitions", "[LRescanDesk$Definition;", true)
  | _ => ("RescanDesk$Table", "size", "I", false)
def ty_Ta : Nat → FieldType := fun k => match k with
  | 0 => (.array (.object "RescanDesk$Definition"))
  | _ => .int
theorem nm_Ta : ∀ a, a < 2 → ∀ b, b < 2 → a ≠ b → (T_Ta a).2.1 ≠ (T_Ta b).2.1 := by decide +kernel
theorem ok_Ta : ∀ k, k < 2 → parseFieldDescriptor (T_Ta k).2.2.1 = some (ty_Ta k) := by decide +kernel
def R_De : String := "RescanDesk$Definition"
def T_De : u_T := fun k => match k with
  | 0 => ("RescanDesk$Definition", "name", "LRescanDesk$Text;", true)
  | 1 => ("RescanDesk$Definition", "body", "LRescanDesk$Text;", true)
  | _ => ("RescanDesk$Definition", "builtIn", "LRescanDesk$BuiltIn;", false)
def ty_De : Nat → FieldType := fun k => match k with
  | 0 => (.object "RescanDesk$Text")
  | 1 => (.object "RescanDesk$Text")
  | _ => (.object "RescanDesk$BuiltIn")
theorem nm_De : ∀ a, a < 3 → ∀ b, b < 3 → a ≠ b → (T_De a).2.1 ≠ (T_De b).2.1 := by decide +kernel
theorem ok_De : ∀ k, k < 3 → parseFieldDescriptor (T_De k).2.2.1 = some (ty_De k) := by decide +kernel
def R_Cs : String := "RescanDesk$Calls"
def T_Cs : u_T := fun k => match k with
  | 0 => ("RescanDesk$Calls", "gathered", "LRescanDesk$Text;", true)
  | 1 => ("RescanDesk$Calls", "stack", "[LRescanDesk$Call;", true)
  | 2 => ("RescanDesk$Calls", "bare", "LRescanDesk$Call;", true)
  | 3 => ("RescanDesk$Calls", "open", "I", false)
  | _ => ("RescanDesk$Calls", "most", "I", false)
def ty_Cs : Nat → FieldType := fun k => match k with
  | 0 => (.object "RescanDesk$Text")
  | 1 => (.array (.object "RescanDesk$Call"))
  | 2 => (.object "RescanDesk$Call")
  | 3 => .int
  | _ => .int
theorem nm_Cs : ∀ a, a < 5 → ∀ b, b < 5 → a ≠ b → (T_Cs a).2.1 ≠ (T_Cs b).2.1 := by decide +kernel
theorem ok_Cs : ∀ k, k < 5 → parseFieldDescriptor (T_Cs k).2.2.1 = some (ty_Cs k) := by decide +kernel
def R_Ca : String := "RescanDesk$Call"
def T_Ca : u_T := fun k => match k with
  | 0 => ("RescanDesk$Call", "definition", "LRescanDesk$Definition;", true)
  | 1 => ("RescanDesk$Call", "chars", "[C", true)
  | 2 => ("RescanDesk$Call", "starts", "[I", true)
  | 3 => ("RescanDesk$Call", "arguments", "I", false)
  | 4 => ("RescanDesk$Call", "depth", "I", false)
  | _ => ("RescanDesk$Call", "begun", "Z", false)
def ty_Ca : Nat → FieldType := fun k => match k with
  | 0 => (.object "RescanDesk$Definition")
  | 1 => (.array .char)
  | 2 => (.array .int)
  | 3 => .int
  | 4 => .int
  | _ => .boolean
theorem nm_Ca : ∀ a, a < 6 → ∀ b, b < 6 → a ≠ b → (T_Ca a).2.1 ≠ (T_Ca b).2.1 := by decide +kernel
theorem ok_Ca : ∀ k, k < 6 → parseFieldDescriptor (T_Ca k).2.2.1 = some (ty_Ca k) := by decide +kernel
def R_Ex : String := "RescanDesk$Expander"
def T_Ex : u_T := fun k => match k with
  | 0 => ("RescanDesk$Expander", "front", "LRescanDesk$Front;", true)
  | 1 => ("RescanDesk$Expander", "rows", "LRescanDesk$Rows;", true)
  | 2 => ("RescanDesk$Expander", "table", "LRescanDesk$Table;", true)
  | 3 => ("RescanDesk$Expander", "expression", "LRescanDesk$Expression;", true)
  | _ => ("RescanDesk$Expander", "made", "LRescanDesk$Text;", true)
def ty_Ex : Nat → FieldType := fun k => match k with
  | 0 => (.object "RescanDesk$Front")
  | 1 => (.object "RescanDesk$Rows")
  | 2 => (.object "RescanDesk$Table")
  | 3 => (.object "RescanDesk$Expression")
  | _ => (.object "RescanDesk$Text")
theorem nm_Ex : ∀ a, a < 5 → ∀ b, b < 5 → a ≠ b → (T_Ex a).2.1 ≠ (T_Ex b).2.1 := by decide +kernel
theorem ok_Ex : ∀ k, k < 5 → parseFieldDescriptor (T_Ex k).2.2.1 = some (ty_Ex k) := by decide +kernel
def R_Ep : String := "RescanDesk$Expression"
def T_Ep : u_T := fun k => match k with
  | 0 => ("RescanDesk$Expression", "signs", "LRescanDesk$Text;", true)
  | 1 => ("RescanDesk$Expression", "at", "I", false)
  | 2 => ("RescanDesk$Expression", "wrong", "Z", false)
  | _ => ("RescanDesk$Expression", "byZero", "Z", false)
def ty_Ep : Nat → FieldType := fun k => match k with
  | 0 => (.object "RescanDesk$Text")
  | 1 => .int
  | 2 => .boolean
  | _ => .boolean
theorem nm_Ep : ∀ a, a < 4 → ∀ b, b < 4 → a ≠ b → (T_Ep a).2.1 ≠ (T_Ep b).2.1 := by decide +kernel
theorem ok_Ep : ∀ k, k < 4 → parseFieldDescriptor (T_Ep k).2.2.1 = some (ty_Ep k) := by decide +kernel
def R_Mo : String := "RescanDeskModel"
def T_Mo : u_T := fun k => match k with
  | 0 => ("RescanDeskModel", "code", "I", false)
  | 1 => ("RescanDeskModel", "typed", "I", false)
  | 2 => ("RescanDeskModel", "text", "[C", true)
  | 3 => ("RescanDeskModel", "size", "I", false)
  | 4 => ("RescanDeskModel", "front", "[C", true)
  | 5 => ("RescanDeskModel", "definitions", "I", false)
  | 6 => ("RescanDeskModel", "names", "[C", true)
  | 7 => ("RescanDeskModel", "nameSizes", "[I", true)
  | 8 => ("RescanDeskModel", "kinds", "[I", true)
  | 9 => ("RescanDeskModel", "bodies", "[C", true)
  | 10 => ("RescanDeskModel", "bodySizes", "[I", true)
  | 11 => ("RescanDeskModel", "open", "I", false)
  | 12 => ("RescanDeskModel", "callNames", "[C", true)
  | 13 => ("RescanDeskModel", "callNameSizes", "[I", true)
  | 14 => ("RescanDeskModel", "callKinds", "[I", true)
  | 15 => ("RescanDeskModel", "callBodies", "[C", true)
  | 16 => ("RescanDeskModel", "callBodySizes", "[I", true)
  | 17 => ("RescanDeskModel", "many", "[I", true)
  | 18 => ("RescanDeskModel", "begins", "[I", true)
  | 19 => ("RescanDeskModel", "depths", "[I", true)
  | 20 => ("RescanDeskModel", "seen", "[Z", true)
  | 21 => ("RescanDeskModel", "written", "I", false)
  | 22 => ("RescanDeskModel", "arguments", "[C", true)
  | 23 => ("RescanDeskModel", "rows", "[C", true)
  | 24 => ("RescanDeskModel", "rowSizes", "[I", true)
  | 25 => ("RescanDeskModel", "present", "I", false)
  | 26 => ("RescanDeskModel", "made", "I", false)
  | 27 => ("RescanDeskModel", "making", "[C", true)
  | 28 => ("RescanDeskModel", "error", "I", false)
  | 29 => ("RescanDeskModel", "steps", "I", false)
  | 30 => ("RescanDeskModel", "most", "I", false)
  | 31 => ("RescanDeskModel", "todo", "I", false)
  | 32 => ("RescanDeskModel", "operators", "[I", true)
  | 33 => ("RescanDeskModel", "numbers", "I", false)
  | 34 => ("RescanDeskModel", "values", "[J", true)
  | 35 => ("RescanDeskModel", "nested", "I", false)
  | 36 => ("RescanDeskModel", "zero", "Z", false)
  | _ => ("RescanDeskModel", "plain", "[C", true)
def ty_Mo : Nat → FieldType := fun k => match k with
  | 0 => .int
  | 1 => .int
  | 2 => (.array .char)
  | 3 => .int
  | 4 => (.array .char)
  | 5 => .int
  | 6 => (.array .char)
  | 7 => (.array .int)
  | 8 => (.array .int)
  | 9 => (.array .char)
  | 10 => (.array .int)
  | 11 => .int
  | 12 => (.array .char)
  | 13 => (.array .int)
  | 14 => (.array .int)
  | 15 => (.array .char)
  | 16 => (.array .int)
  | 17 => (.array .int)
  | 18 => (.array .int)
  | 19 => (.array .int)
  | 20 => (.array .boolean)
  | 21 => .int
  | 22 => (.array .char)
  | 23 => (.array .char)
  | 24 => (.array .int)
  | 25 => .int
  | 26 => .int
  | 27 => (.array .char)
  | 28 => .int
  | 29 => .int
  | 30 => .int
  | 31 => .int
  | 32 => (.array .int)
  | 33 => .int
  | 34 => (.array .long)
  | 35 => .int
  | 36 => .boolean
  | _ => (.array .char)
theorem nm_Mo : ∀ a, a < 38 → ∀ b, b < 38 → a ≠ b → (T_Mo a).2.1 ≠ (T_Mo b).2.1 := by decide +kernel
theorem ok_Mo : ∀ k, k < 38 → parseFieldDescriptor (T_Mo k).2.2.1 = some (ty_Mo k) := by decide +kernel
theorem df_Rd : ∀ j, j < 8 → defaultValue (ty_Rd j) = vp_V [.null, .null, .null, .null, .null, .null, .null, .int 0] j := by
  intro j hj
  rcases (show j = 0 ∨ j = 1 ∨ j = 2 ∨ j = 3 ∨ j = 4 ∨ j = 5 ∨ j = 6 ∨ j = 7 by omega) with rfl | rfl | rfl | rfl | rfl | rfl | rfl | rfl <;> rfl
theorem df_Tx : ∀ j, j < 2 → defaultValue (ty_Tx j) = vp_V [.null, .int 0] j := by
  intro j hj
  rcases (show j = 0 ∨ j = 1 by omega) with rfl | rfl <;> rfl
theorem df_Fr : ∀ j, j < 2 → defaultValue (ty_Fr j) = vp_V [.null, .int 0] j := by
  intro j hj
  rcases (show j = 0 ∨ j = 1 by omega) with rfl | rfl <;> rfl
theorem df_Ro : ∀ j, j < 2 → defaultValue (ty_Ro j) = vp_V [.null, .int 0] j := by
  intro j hj
  rcases (show j = 0 ∨ j = 1 by omega) with rfl | rfl <;> rfl
theorem df_Ta : ∀ j, j < 2 → defaultValue (ty_Ta j) = vp_V [.null, .int 0] j := by
  intro j hj
  rcases (show j = 0 ∨ j = 1 by omega) with rfl | rfl <;> rfl
theorem df_De : ∀ j, j < 3 → defaultValue (ty_De j) = vp_V [.null, .null, .null] j := by
  intro j hj
  rcases (show j = 0 ∨ j = 1 ∨ j = 2 by omega) with rfl | rfl | rfl <;> rfl
theorem df_Cs : ∀ j, j < 5 → defaultValue (ty_Cs j) = vp_V [.null, .null, .null, .int 0, .int 0] j := by
  intro j hj
  rcases (show j = 0 ∨ j = 1 ∨ j = 2 ∨ j = 3 ∨ j = 4 by omega) with rfl | rfl | rfl | rfl | rfl <;> rfl
theorem df_Ca : ∀ j, j < 6 → defaultValue (ty_Ca j) = vp_V [.null, .null, .null, .int 0, .int 0, .int 0] j := by
  intro j hj
  rcases (show j = 0 ∨ j = 1 ∨ j = 2 ∨ j = 3 ∨ j = 4 ∨ j = 5 by omega) with rfl | rfl | rfl | rfl | rfl | rfl <;> rfl
theorem df_Ex : ∀ j, j < 5 → defaultValue (ty_Ex j) = vp_V [.null, .null, .null, .null, .null] j := by
  intro j hj
  rcases (show j = 0 ∨ j = 1 ∨ j = 2 ∨ j = 3 ∨ j = 4 by omega) with rfl | rfl | rfl | rfl | rfl <;> rfl
theorem df_Ep : ∀ j, j < 4 → defaultValue (ty_Ep j) = vp_V [.null, .int 0, .int 0, .int 0] j := by
  intro j hj
  rcases (show j = 0 ∨ j = 1 ∨ j = 2 ∨ j = 3 by omega) with rfl | rfl | rfl | rfl <;> rfl
theorem df_Mo : ∀ j, j < 38 → defaultValue (ty_Mo j) = vp_V [.int 0, .int 0, .null, .int 0, .null, .int 0, .null, .null, .null, .null, .null, .int 0, .null, .null, .null, .null, .null, .null, .null, .null, .null, .int 0, .null, .null, .null, .int 0, .int 0, .null, .int 0, .int 0, .int 0, .int 0, .null, .int 0, .null, .int 0, .int 0, .null] j := by
  intro j hj
  rcases (show j = 0 ∨ j = 1 ∨ j = 2 ∨ j = 3 ∨ j = 4 ∨ j = 5 ∨ j = 6 ∨ j = 7 ∨ j = 8 ∨ j = 9 ∨ j = 10 ∨ j = 11 ∨ j = 12 ∨ j = 13 ∨ j = 14 ∨ j = 15 ∨ j = 16 ∨ j = 17 ∨ j = 18 ∨ j = 19 ∨ j = 20 ∨ j = 21 ∨ j = 22 ∨ j = 23 ∨ j = 24 ∨ j = 25 ∨ j = 26 ∨ j = 27 ∨ j = 28 ∨ j = 29 ∨ j = 30 ∨ j = 31 ∨ j = 32 ∨ j = 33 ∨ j = 34 ∨ j = 35 ∨ j = 36 ∨ j = 37 by omega) with rfl | rfl | rfl | rfl | rfl | rfl | rfl | rfl | rfl | rfl | rfl | rfl | rfl | rfl | rfl | rfl | rfl | rfl | rfl | rfl | rfl | rfl | rfl | rfl | rfl | rfl | rfl | rfl | rfl | rfl | rfl | rfl | rfl | rfl | rfl | rfl | rfl | rfl <;> rfl
def R_La : String := "RescanDeskLaw"
abbrev classes : List vw_C := [(R_Rd, T_Rd, 8), (R_Tx, T_Tx, 2), (R_Fr, T_Fr, 2), (R_Ro, T_Ro, 2), (R_Ta, T_Ta, 2), (R_De, T_De, 3), (R_Cs, T_Cs, 5), (R_Ca, T_Ca, 6), (R_Ex, T_Ex, 5), (R_Ep, T_Ep, 4), (R_Mo, T_Mo, 38)]
def aw_tys (G : aw_G) : List (ClassId × FieldType) := [(G.2.2.2.1 0, .char), (G.2.2.2.1 1, .int), (G.2.2.2.1 2, .long), (G.2.2.2.1 3, .boolean), (G.2.2.2.1 4, .object "RescanDesk$Text"), (G.2.2.2.1 5, .object "RescanDesk$Definition"), (G.2.2.2.1 6, .object "RescanDesk$Call")]
theorem in_Rd : ∀ w ∈ u_ws R_Rd T_Rd 8, w ∈ aw_tbl := by
  intro w hw
  obtain ⟨k, hk, rfl⟩ := List.mem_map.mp hw
  have hk := List.mem_range.mp hk
  rcases (show k = 0 ∨ k = 1 ∨ k = 2 ∨ k = 3 ∨ k = 4 ∨ k = 5 ∨ k = 6 ∨ k = 7 by omega) with rfl | rfl | rfl | rfl | rfl | rfl | rfl | rfl
  · exact aw_i2 78 rfl rfl
  · exact aw_i2 80 rfl rfl
  · exact aw_i2 82 rfl rfl
  · exact aw_i2 84 rfl rfl
  · exact aw_i2 86 rfl rfl
  · exact aw_i2 88 rfl rfl
  · exact aw_i2 90 rfl rfl
  · exact aw_i2 92 rfl rfl
theorem in_Tx : ∀ w ∈ u_ws R_Tx T_Tx 2, w ∈ aw_tbl := by
  intro w hw
  obtain ⟨k, hk, rfl⟩ := List.mem_map.mp hw
  have hk := List.mem_range.mp hk
  rcases (show k = 0 ∨ k = 1 by omega) with rfl | rfl
  · exact aw_i1 58 rfl rfl
  · exact aw_i1 60 rfl rfl
theorem in_Fr : ∀ w ∈ u_ws R_Fr T_Fr 2, w ∈ aw_tbl := by
  intro w hw
  obtain ⟨k, hk, rfl⟩ := List.mem_map.mp hw
  have hk := List.mem_range.mp hk
  rcases (show k = 0 ∨ k = 1 by omega) with rfl | rfl
  · exact aw_i1 74 rfl rfl
  · exact aw_i1 76 rfl rfl
theorem in_Ro : ∀ w ∈ u_ws R_Ro T_Ro 2, w ∈ aw_tbl := by
  intro w hw
  obtain ⟨k, hk, rfl⟩ := List.mem_map.mp hw
  have hk := List.mem_range.mp hk
  rcases (show k = 0 ∨ k = 1 by omega) with rfl | rfl
  · exact aw_i1 93 rfl rfl
  · exact aw_i1 95 rfl rfl
theorem in_Ta : ∀ w ∈ u_ws R_Ta T_Ta 2, w ∈ aw_tbl := by
  intro w hw
  obtain ⟨k, hk, rfl⟩ := List.mem_map.mp hw
  have hk := List.mem_range.mp hk
  rcases (show k = 0 ∨ k = 1 by omega) with rfl | rfl
  · exact aw_i1 194 rfl rfl
  · exact aw_i1 196 rfl rfl
theorem in_De : ∀ w ∈ u_ws R_De T_De 3, w ∈ aw_tbl := by
  intro w hw
  obtain ⟨k, hk, rfl⟩ := List.mem_map.mp hw
  have hk := List.mem_range.mp hk
  rcases (show k = 0 ∨ k = 1 ∨ k = 2 by omega) with rfl | rfl | rfl
  · exact aw_i1 120 rfl rfl
  · exact aw_i1 122 rfl rfl
  · exact aw_i1 124 rfl rfl
theorem in_Cs : ∀ w ∈ u_ws R_Cs T_Cs 5, w ∈ aw_tbl := by
  intro w hw
  obtain ⟨k, hk, rfl⟩ := List.mem_map.mp hw
  have hk := List.mem_range.mp hk
  rcases (show k = 0 ∨ k = 1 ∨ k = 2 ∨ k = 3 ∨ k = 4 by omega) with rfl | rfl | rfl | rfl | rfl
  · exact aw_i2 14 rfl rfl
  · exact aw_i2 16 rfl rfl
  · exact aw_i2 18 rfl rfl
  · exact aw_i2 20 rfl rfl
  · exact aw_i2 22 rfl rfl
theorem in_Ca : ∀ w ∈ u_ws R_Ca T_Ca 6, w ∈ aw_tbl := by
  intro w hw
  obtain ⟨k, hk, rfl⟩ := List.mem_map.mp hw
  have hk := List.mem_range.mp hk
  rcases (show k = 0 ∨ k = 1 ∨ k = 2 ∨ k = 3 ∨ k = 4 ∨ k = 5 by omega) with rfl | rfl | rfl | rfl | rfl | rfl
  · exact aw_i1 232 rfl rfl
  · exact aw_i1 234 rfl rfl
  · exact aw_i1 236 rfl rfl
  · exact aw_i1 238 rfl rfl
  · exact aw_i2 0 rfl rfl
  · exact aw_i2 2 rfl rfl
theorem in_Ex : ∀ w ∈ u_ws R_Ex T_Ex 5, w ∈ aw_tbl := by
  intro w hw
  obtain ⟨k, hk, rfl⟩ := List.mem_map.mp hw
  have hk := List.mem_range.mp hk
  rcases (show k = 0 ∨ k = 1 ∨ k = 2 ∨ k = 3 ∨ k = 4 by omega) with rfl | rfl | rfl | rfl | rfl
  · exact aw_i2 59 rfl rfl
  · exact aw_i2 61 rfl rfl
  · exact aw_i2 63 rfl rfl
  · exact aw_i2 65 rfl rfl
  · exact aw_i2 67 rfl rfl
theorem in_Ep : ∀ w ∈ u_ws R_Ep T_Ep 4, w ∈ aw_tbl := by
  intro w hw
  obtain ⟨k, hk, rfl⟩ := List.mem_map.mp hw
  have hk := List.mem_range.mp hk
  rcases (show k = 0 ∨ k = 1 ∨ k = 2 ∨ k = 3 by omega) with rfl | rfl | rfl | rfl
  · exact aw_i2 43 rfl rfl
  · exact aw_i2 45 rfl rfl
  · exact aw_i2 47 rfl rfl
  · exact aw_i2 49 rfl rfl
theorem in_Mo : ∀ w ∈ u_ws R_Mo T_Mo 38, w ∈ aw_tbl := by
  intro w hw
  obtain ⟨k, hk, rfl⟩ := List.mem_map.mp hw
  have hk := List.mem_range.mp hk
  rcases (show k = 0 ∨ k = 1 ∨ k = 2 ∨ k = 3 ∨ k = 4 ∨ k = 5 ∨ k = 6 ∨ k = 7 ∨ k = 8 ∨ k = 9 ∨ k = 10 ∨ k = 11 ∨ k = 12 ∨ k = 13 ∨ k = 14 ∨ k = 15 ∨ k = 16 ∨ k = 17 ∨ k = 18 ∨ k = 19 ∨ k = 20 ∨ k = 21 ∨ k = 22 ∨ k = 23 ∨ k = 24 ∨ k = 25 ∨ k = 26 ∨ k = 27 ∨ k = 28 ∨ k = 29 ∨ k = 30 ∨ k = 31 ∨ k = 32 ∨ k = 33 ∨ k = 34 ∨ k = 35 ∨ k = 36 ∨ k = 37 by omega) with rfl | rfl | rfl | rfl | rfl | rfl | rfl | rfl | rfl | rfl | rfl | rfl | rfl | rfl | rfl | rfl | rfl | rfl | rfl | rfl | rfl | rfl | rfl | rfl | rfl | rfl | rfl | rfl | rfl | rfl | rfl | rfl | rfl | rfl | rfl | rfl | rfl | rfl
  · exact aw_i4 119 rfl rfl
  · exact aw_i4 121 rfl rfl
  · exact aw_i4 123 rfl rfl
  · exact aw_i4 125 rfl rfl
  · exact aw_i4 127 rfl rfl
  · exact aw_i4 129 rfl rfl
  · exact aw_i4 131 rfl rfl
  · exact aw_i4 133 rfl rfl
  · exact aw_i4 135 rfl rfl
  · exact aw_i4 137 rfl rfl
  · exact aw_i4 139 rfl rfl
  · exact aw_i4 141 rfl rfl
  · exact aw_i4 143 rfl rfl
  · exact aw_i4 145 rfl rfl
  · exact aw_i4 147 rfl rfl
  · exact aw_i4 149 rfl rfl
  · exact aw_i4 151 rfl rfl
  · exact aw_i4 153 rfl rfl
  · exact aw_i4 155 rfl rfl
  · exact aw_i4 157 rfl rfl
  · exact aw_i4 159 rfl rfl
  · exact aw_i4 161 rfl rfl
  · exact aw_i4 163 rfl rfl
  · exact aw_i4 165 rfl rfl
  · exact aw_i4 167 rfl rfl
  · exact aw_i4 169 rfl rfl
  · exact aw_i4 171 rfl rfl
  · exact aw_i4 173 rfl rfl
  · exact aw_i4 175 rfl rfl
  · exact aw_i4 177 rfl rfl
  · exact aw_i4 179 rfl rfl
  · exact aw_i4 181 rfl rfl
  · exact aw_i4 183 rfl rfl
  · exact aw_i4 185 rfl rfl
  · exact aw_i4 187 rfl rfl
  · exact aw_i4 189 rfl rfl
  · exact aw_i4 191 rfl rfl
  · exact aw_i4 193 rfl rfl
end
section
/-! what stays while nothing below our cells changes: links across the nest, constants -/
def aw_own (G : aw_G) : Nat → Prop := fun q => G.2.2.1 ≤ q
/-- the switch's table, by the constants' places -/
def swm : List Nat := [1, 2, 3, 4, 9, 10, 11, 8, 12, 13, 14, 15, 5, 6, 16, 7]
/-- the constants' words -/
def wrd (k : Nat) : List Nat := ([[100, 101, 102, 105, 110, 101], [112, 117, 115, 104, 100, 101, 102], [112, 111, 112, 100, 101, 102], [117, 110, 100, 101, 102, 105, 110, 101], [105, 102, 100, 101, 102], [105, 102, 101, 108, 115, 101], [105, 110, 99, 114], [101, 118, 97, 108], [108, 101, 110], [115, 117, 98, 115, 116, 114], [105, 110, 100, 101, 120], [115, 104, 105, 102, 116], [100, 105, 118, 101, 114, 116], [117, 110, 100, 105, 118, 101, 114, 116], [100, 105, 118, 110, 117, 109], [100, 110, 108]] : List (List Nat)).getD k []
/-- one constant, its word, the word's bytes: k the constant's place, 18 + k its word's, 34 + k that one's array's -/
def aw_C1 (G : aw_G) (U : State) (H : Heap) (k : Nat) : Prop :=
  va_O "RescanDesk$BuiltIn" (G.2.2.2.2 k) (aw_own G) U H ∧ va_OF "java/lang/Enum" "ordinal" "I" (.int (nI k)) (G.2.2.2.2 k) (aw_own G) U H ∧ va_OF "RescanDesk$BuiltIn" "word" "Ljava/lang/String;" (.ref (G.2.2.2.2 (18 + k))) (G.2.2.2.2 k) (aw_own G) U H ∧ va_O "java/lang/String" (G.2.2.2.2 (18 + k)) (aw_own G) U H ∧ va_OF "java/lang/String" "coder" "B" (.int (nI 0)) (G.2.2.2.2 (18 + k)) (aw_own G) U H ∧ va_OF "java/lang/String" "value" "[B" (.ref (G.2.2.2.2 (34 + k))) (G.2.2.2.2 (18 + k)) (aw_own G) U H ∧ va_T .byte (G.2.2.2.2 (34 + k)) (wrd k).length (fun i => .int (nI ((wrd k).getD i 0))) (aw_own G) U H
def aw_C2 (G : aw_G) (U : State) (H : Heap) : Prop :=
  va_Z "RescanDesk$1" "$SwitchMap$RescanDesk$BuiltIn" "[I" (.ref (G.2.2.2.2 16)) (aw_own G) U H ∧ va_T .int (G.2.2.2.2 16) 16 (fun i => .int (nI (swm.getD i 0))) (aw_own G) U H ∧
  va_Z "RescanDesk$BuiltIn" "ALL" "[LRescanDesk$BuiltIn;" (.ref (G.2.2.2.2 17)) (aw_own G) U H ∧ va_T (.object "RescanDesk$BuiltIn") (G.2.2.2.2 17) 16 (fun i => .ref (G.2.2.2.2 i)) (aw_own G) U H ∧
  va_Z "java/lang/String" "COMPACT_STRINGS" "Z" (.int (nI 1)) (aw_own G) U H ∧ va_Zq "jdk/internal/util/Preconditions" "SIOOBE_FORMATTER" "Ljava/util/function/BiFunction;" (aw_own G) U H ∧ ∀ k, k < 16 → aw_C1 G U H k
def aw_C (G : aw_G) (U : State) : Prop := G.2.2.1 ≤ U.heap.size ∧ aw_C2 G U U.heap
theorem aw_Ck {G : aw_G} {u U : State} {H H1 : Heap} (hv : u.vm.Alike U.vm) (hq : ∀ a : Nat, a < H.size → ¬ aw_own G a → H1[a]? = H[a]?) (h : aw_C2 G u H) : aw_C2 G U H1 := by
  obtain ⟨h1, h2, h3, h4, h5, h6, h7⟩ := h
  refine ⟨(h1.moved hv).kept hq, (h2.moved hv).kept hq, (h3.moved hv).kept hq, (h4.moved hv).kept hq, (h5.moved hv).kept hq, (h6.moved hv).kept hq, fun k hk => ?_⟩
  obtain ⟨a1, a2, a3, a4, a5, a6, a7⟩ := h7 k hk
  exact ⟨(a1.moved hv).kept hq, (a2.moved hv).kept hq, (a3.moved hv).kept hq, (a4.moved hv).kept hq, (a5.moved hv).kept hq, (a6.moved hv).kept hq, (a7.moved hv).kept hq⟩
def aw_K (G : aw_G) (U : State) : Prop := (∀ w ∈ aw_nest, va_Nw w U) ∧ aw_C G U
theorem aw_Nk {u U : State} (hW : u.WarmedH U.vm) {w : Cond} (hn : aw_isNest w = true) (h : va_Nw w u) : va_Nw w U := by
  cases w with
  | fieldLinkNest a i b n d h9 => exact va_Nw.warmF hW h
  | methodLinkNest a i x h9 => exact va_Nw.warmM hW h
  | arrayOver t => cases t with
    | object C => exact va_AO.moved hW.alike h
    | _ => cases hn
  | _ => cases hn
theorem aw_Kk {G : aw_G} {u U : State} (hW : u.WarmedH U.vm) (hz : u.heap.size ≤ U.heap.size) (h : ∀ q : Nat, q < u.heap.size → ¬ aw_own G q → U.heap[q]? = u.heap[q]?) (hK : aw_K G u) : aw_K G U :=
  ⟨fun w hw => aw_Nk hW (List.mem_filter.mp hw).2 (hK.1 w hw), Nat.le_trans hK.2.1 hz, aw_Ck hW.alike h hK.2.2⟩
end
section
/-! Offset worlds: what the run has made lies at b, b + 1, ..; a world is a function from the offset to the cell. -/
def aw_up (w : Nat → va_E) (a : Nat) (c : va_E) : Nat → va_E := fun x => cond (Nat.beq x a) c (w x)
theorem aw_up_if (w : Nat → va_E) (a : Nat) (c : va_E) (x : Nat) : aw_up w a c x = if x = a then c else w x := by
  unfold aw_up
  by_cases h : x = a
  · subst h; simp
  · cases hb : Nat.beq x a with
    | true => exact absurd (Nat.eq_of_beq_eq_true hb) h
    | false => rw [if_neg h]; rfl
theorem aw_up_eq (w : Nat → va_E) (a : Nat) (c : va_E) : aw_up w a c a = c := by rw [aw_up_if, if_pos rfl]
theorem aw_up_ne (w : Nat → va_E) {a x : Nat} (c : va_E) (h : x ≠ a) : aw_up w a c x = w x := by rw [aw_up_if, if_neg h]
def aw_ws (b nx : Nat) (w : Nat → va_E) : va_W := (List.range nx).map (fun i => (b + i, w i))
theorem aw_ws_len (b nx : Nat) (w : Nat → va_E) : (aw_ws b nx w).length = nx := by simp [aw_ws]
theorem aw_ws_get {b nx a : Nat} {w : Nat → va_E} (h : a < nx) : (aw_ws b nx w)[a]? = some (b + a, w a) := by
  simp [aw_ws, h]
theorem aw_ws_some {b nx a : Nat} {w : Nat → va_E} {q : Nat × va_E} (h : (aw_ws b nx w)[a]? = some q) : a < nx ∧ q = (b + a, w a) := by
  have h1 : a < (aw_ws b nx w).length := (List.getElem?_eq_some_iff.mp h).1
  rw [aw_ws_len] at h1
  rw [aw_ws_get h1] at h
  exact ⟨h1, (Option.some.inj h).symm⟩
theorem aw_ws_set {b nx a : Nat} {w : Nat → va_E} (c : va_E) (h : a < nx) : (aw_ws b nx w).set a (b + a, c) = aw_ws b nx (aw_up w a c) := by
  apply List.ext_getElem?
  intro i
  rw [List.getElem?_set]
  by_cases hi : i < nx
  · rw [aw_ws_get hi, aw_ws_get hi, aw_ws_len]
    by_cases h2 : a = i
    · subst h2
      simp [h, aw_up_eq]
    · rw [if_neg h2, aw_up_ne _ _ (Ne.symm h2)]
  · have e1 : (aw_ws b nx w)[i]? = none := by rw [List.getElem?_eq_none_iff, aw_ws_len]; omega
    have e2 : (aw_ws b nx (aw_up w a c))[i]? = none := by rw [List.getElem?_eq_none_iff, aw_ws_len]; omega
    rw [e1, e2, if_neg (by omega)]
theorem aw_ws_push {b nx : Nat} {w : Nat → va_E} (c : va_E) : aw_ws b nx w ++ [(b + nx, c)] = aw_ws b (nx + 1) (aw_up w nx c) := by
  apply List.ext_getElem?
  intro i
  by_cases hi : i < nx
  · rw [List.getElem?_append_left (by rw [aw_ws_len]; exact hi), aw_ws_get hi, aw_ws_get (by omega), aw_up_ne _ _ (by omega)]
  · rw [List.getElem?_append_right (by rw [aw_ws_len]; omega), aw_ws_len]
    by_cases h2 : i = nx
    · subst h2
      rw [aw_ws_get (by omega), aw_up_eq]
      simp
    · have e2 : (aw_ws b (nx + 1) (aw_up w nx c))[i]? = none := by rw [List.getElem?_eq_none_iff, aw_ws_len]; omega
      rw [e2, List.getElem?_eq_none_iff]
      simp
      omega
theorem aw_D0 {b nx : Nat} {w : Nat → va_E} : va_D (fun q => b ≤ q) (aw_ws b nx w) := by
  refine ⟨fun i j x y hi hj e => ?_, fun k q h => ?_⟩
  · obtain ⟨-, rfl⟩ := aw_ws_some hi
    obtain ⟨-, rfl⟩ := aw_ws_some hj
    have : b + i = b + j := e
    omega
  · obtain ⟨-, rfl⟩ := aw_ws_some h
    exact Nat.le_add_right _ _
def aw_lg : List (Nat × Value) → Nat → Option Value
  | [], _ => none
  | q :: r, i => cond (Nat.beq q.1 i) (some q.2) (aw_lg r i)
theorem aw_lg_mem : ∀ {lv : List (Nat × Value)} {i : Nat} {v : Value}, aw_lg lv i = some v → (i, v) ∈ lv
  | [], i, v, h => by simp [aw_lg] at h
  | q :: r, i, v, h => by
    obtain ⟨a, u⟩ := q
    have h' : cond (Nat.beq a i) (some u) (aw_lg r i) = some v := h
    cases hq : Nat.beq a i with
    | true =>
      rw [hq] at h'
      have e1 : a = i := Nat.eq_of_beq_eq_true hq
      have e2 : u = v := Option.some.inj h'
      subst e1; subst e2
      exact List.mem_cons_self
    | false =>
      rw [hq] at h'
      exact List.mem_cons_of_mem _ (aw_lg_mem h')
theorem aw_la {ls : Array Slot} {nL : Nat} {lv : List (Nat × Value)} (h : lv_has ls nL lv) {i : Nat} {v : Value} (hk : aw_lg lv i = some v) : ls[i]? = some (.val v) := h.2.2 (i, v) (aw_lg_mem hk)
def aObj (ci : Nat) (fs : List Value) : va_E := .inr (ci, fs)
def aArr (cA : ClassId) (n : Nat) (g : Nat → Nat) : va_E := .inl (cA, n, .inl (fun j => nI (g j)))
def aLong (cA : ClassId) (n : Nat) (f : Nat → Int64) : va_E := .inl (cA, n, .inr (.inl f))
def aRefs (cA : ClassId) (n : Nat) (f : Nat → Option Nat) : va_E := .inl (cA, n, .inr (.inr (.inr (.inr f))))
/-- a method's frame on the machine -/
abbrev aw_E : Type := Program × Env × State × MethodId × Array Value × List Frame × Method × Code × Room × (State → Prop)
def rf (G : aw_G) (a : Nat) : Value := .ref (G.2.2.1 + a)
theorem aw_D {G : aw_G} {nx : Nat} {w : Nat → va_E} : va_D (aw_own G) (aw_ws G.2.2.1 nx w) := aw_D0
/-- what a method's frame is given: the machine, its own code, the words of the tables -/
def aw_X (G : aw_G) (own : String) (cc : ByteArray) (nL : Nat) (ret : Option FieldType) (nm : String) (al : Bool) (n0 d mc ms : Nat) (E : aw_E) : Prop :=
  E.1.tables.exec = Jvm.exec ∧ E.2.2.2.2.2.2.2.1.code = cc ∧ E.2.2.2.2.2.2.2.1.maxLocals = nL ∧ E.2.2.1.vm.findClass own = some E.2.2.2.1.cls ∧ (∀ w ∈ aw_tbl, w.before E.2.2.2.2.1 E.2.2.1 = true) ∧ E.2.2.2.2.2.2.1.sig.returnType = ret ∧ E.2.2.2.2.2.2.1.locks = false ∧ E.2.2.2.2.2.2.1.name = nm ∧ va_K G.2.1 classes (aw_tys G) E.2.2.1 ∧ aw_K G E.2.2.1 ∧ G.2.2.1 ≤ E.2.2.1.heap.size ∧ (al = true → E.2.2.1.heap.size = G.2.2.1 + n0) ∧ d ≤ E.2.2.2.2.2.2.2.2.1.frames ∧ 40 * d ≤ E.2.2.2.2.2.2.2.2.1.locals ∧ mc ≤ E.2.2.2.2.2.2.2.2.1.cells ∧ ms ≤ E.2.2.2.2.2.2.2.2.1.slots
abbrev aw_R (d mc ms : Nat) : Room := { frames := d, cells := mc, slots := ms, locals := 40 * d }
def aw_Qc (G : aw_G) (post : Option Value → (Nat → va_E) → Nat → Prop) : Array Value → State → Outcome → State → Prop := fun _ st oc t =>
  (∃ (r : Option Value) (w' : Nat → va_E) (nx' : Nat), oc = .returned r ∧ post r w' nx' ∧ va_P G.2.1 classes (aw_ws G.2.2.1 nx' w') t.heap) ∧ va_F (aw_own G) st t
/-- the frame's walk: from here on the method returns, with an answer and a world that P allows -/
def AW (G : aw_G) (E : aw_E) (nL nx cells slots : Nat) (w : Nat → va_E) (pc : Nat) (lv : List (Nat × Value)) (st : List Value) : Prop :=
  ∀ (H : Heap) (locs : List Loc) (ls : Array Slot), va_P G.2.1 classes (aw_ws G.2.2.1 nx w) H → va_S (aw_own G) E.2.2.1.heap H locs → lv_has ls nL lv → W E.1 G.1 E.2.1 E.2.2.2.2.2.2.2.2.1 E.2.2.1 E.2.2.2.1 E.2.2.2.2.1 E.2.2.2.2.2.1 E.2.2.2.2.2.2.1 E.2.2.2.2.2.2.2.1 H locs cells slots E.2.2.2.2.2.2.2.2.2 (F0 E.2.2.2.1 pc ls st)
/-- the frame's end is a contract's -/
def aw_Y (G : aw_G) (P : Option Value → (Nat → va_E) → Nat → Prop) (mc ms : Nat) (E : aw_E) : Prop := E.2.2.2.2.2.2.2.2.2 = MQ E.2.2.2.2.2.1 (aw_Qc G P) E.2.2.2.2.1 E.2.2.1 mc ms (aw_own G)
/-- a contract over offset worlds -/
def aw_Pc (G : aw_G) (al : Bool) (a : List Value) (nx : Nat) (w : Nat → va_E) : Array Value → State → Prop :=
  va_Pc a (fun U => (al = true → U.heap.size = G.2.2.1 + nx) ∧ va_P G.2.1 classes (aw_ws G.2.2.1 nx w) U.heap ∧ va_K G.2.1 classes (aw_tys G) U ∧ aw_K G U ∧ G.2.2.1 ≤ U.heap.size)
def AC0 (G : aw_G) (y : MethodName) (cc : ByteArray) (nL : Nat) (ret : Option FieldType) (d : Nat) (al : Bool) (a : List Value) (nx : Nat) (w : Nat → va_E) (mc ms : Nat) (post : Option Value → (Nat → va_E) → Nat → Prop) : Prop :=
  Met G.1 y (Cond.code y cc nL ret :: aw_tbl) (aw_R d mc ms) (aw_Pc G al a nx w) (aw_Qc G post) mc ms (aw_own G)
def AC (G : aw_G) (y : MethodName) (cc : ByteArray) (nL : Nat) (ret : Option FieldType) (d : Nat) (al : Bool) (a : List Value) (nx : Nat) (w : Nat → va_E) (mc ms : Nat) (post : Option Value → (Nat → va_E) → Nat → Prop) : Prop :=
  ∃ post0 : Option Value → (Nat → va_E) → Nat → Prop, AC0 G y cc nL ret d al a nx w mc ms post0 ∧ ∀ r w' nx', post0 r w' nx' → post r w' nx'
theorem AC.weak {G : aw_G} {y : MethodName} {cc : ByteArray} {nL : Nat} {ret : Option FieldType} {d : Nat} {al : Bool} {a : List Value} {nx : Nat} {w : Nat → va_E} {mc ms : Nat} {post post' : Option Value → (Nat → va_E) → Nat → Prop} (h : AC G y cc nL ret d al a nx w mc ms post) (hw : ∀ r w' nx', post r w' nx' → post' r w' nx') : AC G y cc nL ret d al a nx w mc ms post' := by
  obtain ⟨p0, h1, h2⟩ := h
  exact ⟨p0, h1, fun r w' nx' h => hw _ _ _ (h2 _ _ _ h)⟩
theorem aw_blind {G : aw_G} {al : Bool} {a : List Value} {nx : Nat} {w : Nat → va_E} : FrameBlind (aw_Pc G al a nx w) := by
  intro a' U g mk h
  obtain ⟨h1, h2, h3, h4, h5, h6⟩ := h
  exact ⟨h1, h2, h3, va_K.moved (u := U) (U := U.calling g mk a') (Vm.Alike.refl U.vm) h4, aw_Kk (u := U) (U := U.calling g mk a') (State.WarmedH.refl U) (Nat.le_refl _) (fun _ _ _ => rfl) h5, h6⟩

section AWS
variable {G : aw_G} {E : aw_E} {P : Option Value → (Nat → va_E) → Nat → Prop} {nL d mc ms nx n0 cells slots pc : Nat} {al : Bool} {w : Nat → va_E} {lv : List (Nat × Value)} {rest : List Value} {own nm : String} {cc : ByteArray} {ret : Option FieldType}
theorem AW.of {lv' : List (Nat × Value)} {rest' : List Value} {w' : Nat → va_E} {nx' cells' slots' : Nat} (h1 : nx = nx') (h3 : cells = cells') (h4 : slots = slots') (h5 : w = w') (h6 : lv = lv') (h7 : rest = rest') (k : AW G E nL nx' cells' slots' w' pc lv' rest') : AW G E nL nx cells slots w pc lv rest := by
  subst h1; subst h3; subst h4; subst h5; subst h6; subst h7; exact k
theorem AW.eqw {w' : Nat → va_E} (h : w = w') (k : AW G E nL nx cells slots w' pc lv rest) : AW G E nL nx cells slots w pc lv rest := h ▸ k
theorem AW.eql {lv' : List (Nat × Value)} (h : lv = lv') (k : AW G E nL nx cells slots w pc lv' rest) : AW G E nL nx cells slots w pc lv rest := h ▸ k
theorem AW.lsub (ks : List Nat) {lv' : List (Nat × Value)} (h : lv_pick lv ks = lv') (k : AW G E nL nx cells slots w pc lv' rest) : AW G E nL nx cells slots w pc lv rest := fun H locs ls hP hS hl => k H locs ls hP hS (lv_sub hl ks h)
theorem AW.wide {k n : Nat} (h1 : cells ≤ k) (h2 : slots ≤ n) (kk : AW G E nL nx k n w pc lv rest) : AW G E nL nx cells slots w pc lv rest := fun H locs ls hP hS hl => W.widen h1 h2 (kk H locs ls hP hS hl)
/-- a contract by a walk of the body -/
theorem AC.ofW {y : MethodName} {a : List Value} {post : Option Value → (Nat → va_E) → Nat → Prop} (hy : plainName y.cls = true) (ha : (lg_sl a).length ≤ nL)
    (body : ∀ (E : aw_E) (P : Option Value → (Nat → va_E) → Nat → Prop), (∀ r w' nx', post r w' nx' → P r w' nx') → aw_Y G P mc ms E → aw_X G y.cls cc nL ret y.name al nx d mc ms E → AW G E nL nx 0 0 w 0 (lv_args 0 a) []) : AC G y cc nL ret d al a nx w mc ms post := by
  refine ⟨post, ?_, fun _ _ _ h => h⟩
  refine Met.ofW (cc := cc) (maxL := nL) (ret := ret) hy rfl ?_
  intro p e s m args below meth c s₁ B hml hv
  obtain ⟨rfl, hsz, hP, hK, hKs, hbs⟩ := hv
  have hown : s.vm.findClass y.cls = some m.cls := findClass_of_methodNamed B.named
  have hin : meth.name = y.name := (name_of_methodNamed B.named B.method).1
  have hl := lv_entry a (n := nL) ha
  rw [lg_entry_eq]
  exact body (p, e, s, m, a.toArray, below, meth, c, aw_R d mc ms, MQ below (aw_Qc G post) a.toArray s mc ms (aw_own G)) post (fun _ _ _ h => h) rfl ⟨B.exec, B.bytes, hml, hown, fun w h => atoms_spec (ws := Cond.code y cc nL ret :: aw_tbl) B.pre w (List.mem_cons_of_mem _ h), B.returns, B.notSynchronized, hin, hK, hKs, hbs, hsz, Nat.le_refl _, Nat.le_refl _, Nat.le_refl _, Nat.le_refl _⟩ s.heap [] _ hP va_S.rf hl

theorem aw_iconst (X : aw_X G own cc nL ret nm al n0 d mc ms E) {n : Int} {v : Int32} (hdg : decode cc pc = .ok (.iconst n, 1)) (hv : Int32.ofInt n = v) (k : AW G E nL nx cells slots w (pc + 1) lv (.int v :: rest)) : AW G E nL nx cells slots w pc lv rest := fun H locs ls hP hS hl => lv_iconst X.1 X.2.1 hdg hv (k H locs ls hP hS hl)
theorem aw_bipush (X : aw_X G own cc nL ret nm al n0 d mc ms E) {n : Int} {v : Int32} (hdg : decode cc pc = .ok (.bipush n, 2)) (hv : (Int8.ofInt n).toInt32 = v) (k : AW G E nL nx cells slots w (pc + 2) lv (.int v :: rest)) : AW G E nL nx cells slots w pc lv rest := fun H locs ls hP hS hl => lv_bipush X.1 X.2.1 hdg hv (k H locs ls hP hS hl)
theorem aw_sipush (X : aw_X G own cc nL ret nm al n0 d mc ms E) {n : Int} {v : Int32} (hdg : decode cc pc = .ok (.sipush n, 3)) (hv : (Int16.ofInt n).toInt32 = v) (k : AW G E nL nx cells slots w (pc + 3) lv (.int v :: rest)) : AW G E nL nx cells slots w pc lv rest := fun H locs ls hP hS hl => lv_sipush X.1 X.2.1 hdg hv (k H locs ls hP hS hl)
theorem aw_lconst (X : aw_X G own cc nL ret nm al n0 d mc ms E) {n : Fin 2} {v : Int64} (hdg : decode cc pc = .ok (.lconst n, 1)) (hv : Int64.ofNat n = v) (k : AW G E nL nx cells slots w (pc + 1) lv (.long v :: rest)) : AW G E nL nx cells slots w pc lv rest := fun H locs ls hP hS hl => lv_lconst X.1 X.2.1 hdg hv (k H locs ls hP hS hl)
theorem aw_iadd (X : aw_X G own cc nL ret nm al n0 d mc ms E) {x y : Int32} (hdg : decode cc pc = .ok (.iadd, 1))  (k : AW G E nL nx cells slots w (pc + 1) lv (.int (x + y) :: rest)) : AW G E nL nx cells slots w pc lv (.int y :: .int x :: rest) := fun H locs ls hP hS hl => lv_iadd X.1 X.2.1 hdg  (k H locs ls hP hS hl)
theorem aw_isub (X : aw_X G own cc nL ret nm al n0 d mc ms E) {x y : Int32} (hdg : decode cc pc = .ok (.isub, 1))  (k : AW G E nL nx cells slots w (pc + 1) lv (.int (x - y) :: rest)) : AW G E nL nx cells slots w pc lv (.int y :: .int x :: rest) := fun H locs ls hP hS hl => lv_isub X.1 X.2.1 hdg  (k H locs ls hP hS hl)
theorem aw_imul (X : aw_X G own cc nL ret nm al n0 d mc ms E) {x y : Int32} (hdg : decode cc pc = .ok (.imul, 1))  (k : AW G E nL nx cells slots w (pc + 1) lv (.int (x * y) :: rest)) : AW G E nL nx cells slots w pc lv (.int y :: .int x :: rest) := fun H locs ls hP hS hl => lv_imul X.1 X.2.1 hdg  (k H locs ls hP hS hl)
theorem aw_iand (X : aw_X G own cc nL ret nm al n0 d mc ms E) {x y : Int32} (hdg : decode cc pc = .ok (.iand, 1))  (k : AW G E nL nx cells slots w (pc + 1) lv (.int (x &&& y) :: rest)) : AW G E nL nx cells slots w pc lv (.int y :: .int x :: rest) := fun H locs ls hP hS hl => lv_iand X.1 X.2.1 hdg  (k H locs ls hP hS hl)
theorem aw_ior (X : aw_X G own cc nL ret nm al n0 d mc ms E) {x y : Int32} (hdg : decode cc pc = .ok (.ior, 1))  (k : AW G E nL nx cells slots w (pc + 1) lv (.int (x ||| y) :: rest)) : AW G E nL nx cells slots w pc lv (.int y :: .int x :: rest) := fun H locs ls hP hS hl => lv_ior X.1 X.2.1 hdg  (k H locs ls hP hS hl)
theorem aw_ixor (X : aw_X G own cc nL ret nm al n0 d mc ms E) {x y : Int32} (hdg : decode cc pc = .ok (.ixor, 1))  (k : AW G E nL nx cells slots w (pc + 1) lv (.int (x ^^^ y) :: rest)) : AW G E nL nx cells slots w pc lv (.int y :: .int x :: rest) := fun H locs ls hP hS hl => lv_ixor X.1 X.2.1 hdg  (k H locs ls hP hS hl)
theorem aw_ladd (X : aw_X G own cc nL ret nm al n0 d mc ms E) {x y : Int64} (hdg : decode cc pc = .ok (.ladd, 1))  (k : AW G E nL nx cells slots w (pc + 1) lv (.long (x + y) :: rest)) : AW G E nL nx cells slots w pc lv (.long y :: .long x :: rest) := fun H locs ls hP hS hl => lv_ladd X.1 X.2.1 hdg  (k H locs ls hP hS hl)
theorem aw_lsub (X : aw_X G own cc nL ret nm al n0 d mc ms E) {x y : Int64} (hdg : decode cc pc = .ok (.lsub, 1))  (k : AW G E nL nx cells slots w (pc + 1) lv (.long (x - y) :: rest)) : AW G E nL nx cells slots w pc lv (.long y :: .long x :: rest) := fun H locs ls hP hS hl => lv_lsub X.1 X.2.1 hdg  (k H locs ls hP hS hl)
theorem aw_lmul (X : aw_X G own cc nL ret nm al n0 d mc ms E) {x y : Int64} (hdg : decode cc pc = .ok (.lmul, 1))  (k : AW G E nL nx cells slots w (pc + 1) lv (.long (x * y) :: rest)) : AW G E nL nx cells slots w pc lv (.long y :: .long x :: rest) := fun H locs ls hP hS hl => lv_lmul X.1 X.2.1 hdg  (k H locs ls hP hS hl)
theorem aw_land (X : aw_X G own cc nL ret nm al n0 d mc ms E) {x y : Int64} (hdg : decode cc pc = .ok (.land, 1))  (k : AW G E nL nx cells slots w (pc + 1) lv (.long (x &&& y) :: rest)) : AW G E nL nx cells slots w pc lv (.long y :: .long x :: rest) := fun H locs ls hP hS hl => lv_land X.1 X.2.1 hdg  (k H locs ls hP hS hl)
theorem aw_lor (X : aw_X G own cc nL ret nm al n0 d mc ms E) {x y : Int64} (hdg : decode cc pc = .ok (.lor, 1))  (k : AW G E nL nx cells slots w (pc + 1) lv (.long (x ||| y) :: rest)) : AW G E nL nx cells slots w pc lv (.long y :: .long x :: rest) := fun H locs ls hP hS hl => lv_lor X.1 X.2.1 hdg  (k H locs ls hP hS hl)
theorem aw_lxor (X : aw_X G own cc nL ret nm al n0 d mc ms E) {x y : Int64} (hdg : decode cc pc = .ok (.lxor, 1))  (k : AW G E nL nx cells slots w (pc + 1) lv (.long (x ^^^ y) :: rest)) : AW G E nL nx cells slots w pc lv (.long y :: .long x :: rest) := fun H locs ls hP hS hl => lv_lxor X.1 X.2.1 hdg  (k H locs ls hP hS hl)
theorem aw_idiv (X : aw_X G own cc nL ret nm al n0 d mc ms E) {x y : Int32} (hdg : decode cc pc = .ok (.idiv, 1)) (hne : ¬ y = 0) (k : AW G E nL nx cells slots w (pc + 1) lv (.int (x / y) :: rest)) : AW G E nL nx cells slots w pc lv (.int y :: .int x :: rest) := fun H locs ls hP hS hl => lv_idiv X.1 X.2.1 hdg hne (k H locs ls hP hS hl)
theorem aw_irem (X : aw_X G own cc nL ret nm al n0 d mc ms E) {x y : Int32} (hdg : decode cc pc = .ok (.irem, 1)) (hne : ¬ y = 0) (k : AW G E nL nx cells slots w (pc + 1) lv (.int (x - x / y * y) :: rest)) : AW G E nL nx cells slots w pc lv (.int y :: .int x :: rest) := fun H locs ls hP hS hl => lv_irem X.1 X.2.1 hdg hne (k H locs ls hP hS hl)
theorem aw_ldiv (X : aw_X G own cc nL ret nm al n0 d mc ms E) {x y : Int64} (hdg : decode cc pc = .ok (.ldiv, 1)) (hne : ¬ y = 0) (k : AW G E nL nx cells slots w (pc + 1) lv (.long (x / y) :: rest)) : AW G E nL nx cells slots w pc lv (.long y :: .long x :: rest) := fun H locs ls hP hS hl => lv_ldiv X.1 X.2.1 hdg hne (k H locs ls hP hS hl)
theorem aw_lrem (X : aw_X G own cc nL ret nm al n0 d mc ms E) {x y : Int64} (hdg : decode cc pc = .ok (.lrem, 1)) (hne : ¬ y = 0) (k : AW G E nL nx cells slots w (pc + 1) lv (.long (x - x / y * y) :: rest)) : AW G E nL nx cells slots w pc lv (.long y :: .long x :: rest) := fun H locs ls hP hS hl => lv_lrem X.1 X.2.1 hdg hne (k H locs ls hP hS hl)
theorem aw_ineg (X : aw_X G own cc nL ret nm al n0 d mc ms E) {x : Int32} (hdg : decode cc pc = .ok (.ineg, 1))  (k : AW G E nL nx cells slots w (pc + 1) lv (.int (-x) :: rest)) : AW G E nL nx cells slots w pc lv (.int x :: rest) := fun H locs ls hP hS hl => lv_ineg X.1 X.2.1 hdg  (k H locs ls hP hS hl)
theorem aw_lneg (X : aw_X G own cc nL ret nm al n0 d mc ms E) {x : Int64} (hdg : decode cc pc = .ok (.lneg, 1))  (k : AW G E nL nx cells slots w (pc + 1) lv (.long (-x) :: rest)) : AW G E nL nx cells slots w pc lv (.long x :: rest) := fun H locs ls hP hS hl => lv_lneg X.1 X.2.1 hdg  (k H locs ls hP hS hl)
theorem aw_i2l (X : aw_X G own cc nL ret nm al n0 d mc ms E) {x : Int32} (hdg : decode cc pc = .ok (.i2l, 1))  (k : AW G E nL nx cells slots w (pc + 1) lv (.long x.toInt64 :: rest)) : AW G E nL nx cells slots w pc lv (.int x :: rest) := fun H locs ls hP hS hl => lv_i2l X.1 X.2.1 hdg rfl (k H locs ls hP hS hl)
theorem aw_l2i (X : aw_X G own cc nL ret nm al n0 d mc ms E) {x : Int64} (hdg : decode cc pc = .ok (.l2i, 1))  (k : AW G E nL nx cells slots w (pc + 1) lv (.int x.toInt32 :: rest)) : AW G E nL nx cells slots w pc lv (.long x :: rest) := fun H locs ls hP hS hl => lv_l2i X.1 X.2.1 hdg rfl (k H locs ls hP hS hl)
theorem aw_i2c (X : aw_X G own cc nL ret nm al n0 d mc ms E) {x : Int32} (hdg : decode cc pc = .ok (.i2c, 1))  (k : AW G E nL nx cells slots w (pc + 1) lv (.int (x.toUInt32 % 65536).toInt32 :: rest)) : AW G E nL nx cells slots w pc lv (.int x :: rest) := fun H locs ls hP hS hl => lv_i2c X.1 X.2.1 hdg rfl (k H locs ls hP hS hl)
theorem aw_lshr (X : aw_X G own cc nL ret nm al n0 d mc ms E) {x : Int64} {y : Int32} (hdg : decode cc pc = .ok (.lshr, 1))  (k : AW G E nL nx cells slots w (pc + 1) lv (.long (x >>> (y.toInt64 &&& 63)) :: rest)) : AW G E nL nx cells slots w pc lv (.int y :: .long x :: rest) := fun H locs ls hP hS hl => lv_lshr X.1 X.2.1 hdg rfl (k H locs ls hP hS hl)
theorem aw_dup (X : aw_X G own cc nL ret nm al n0 d mc ms E) {va : Value} (hdg : decode cc pc = .ok (.dup, 1)) (hva : va.category = 1) (k : AW G E nL nx cells slots w (pc + 1) lv (va :: va :: rest)) : AW G E nL nx cells slots w pc lv (va :: rest) := fun H locs ls hP hS hl => lv_dup X.1 X.2.1 hdg hva (k H locs ls hP hS hl)
theorem aw_pop (X : aw_X G own cc nL ret nm al n0 d mc ms E) {va : Value} (hdg : decode cc pc = .ok (.pop, 1)) (hva : va.category = 1) (k : AW G E nL nx cells slots w (pc + 1) lv rest) : AW G E nL nx cells slots w pc lv (va :: rest) := fun H locs ls hP hS hl => lv_pop X.1 X.2.1 hdg hva (k H locs ls hP hS hl)
theorem aw_dup_x1 (X : aw_X G own cc nL ret nm al n0 d mc ms E) {va vb : Value} (hdg : decode cc pc = .ok (.dup_x1, 1)) (hva : va.category = 1) (hvb : vb.category = 1) (k : AW G E nL nx cells slots w (pc + 1) lv (va :: vb :: va :: rest)) : AW G E nL nx cells slots w pc lv (va :: vb :: rest) := fun H locs ls hP hS hl => lv_dup_x1 X.1 X.2.1 hdg hva hvb (k H locs ls hP hS hl)
theorem aw_dup_x2 (X : aw_X G own cc nL ret nm al n0 d mc ms E) {va vb vd : Value} (hdg : decode cc pc = .ok (.dup_x2, 1)) (hva : va.category = 1) (hvb : vb.category = 1) (hvd : vd.category = 1) (k : AW G E nL nx cells slots w (pc + 1) lv (va :: vb :: vd :: va :: rest)) : AW G E nL nx cells slots w pc lv (va :: vb :: vd :: rest) := fun H locs ls hP hS hl => lv_dup_x2 X.1 X.2.1 hdg hva hvb hvd (k H locs ls hP hS hl)
theorem aw_dup2 (X : aw_X G own cc nL ret nm al n0 d mc ms E) {va vb : Value} (hdg : decode cc pc = .ok (.dup2, 1)) (hva : va.category = 1) (hvb : vb.category = 1) (k : AW G E nL nx cells slots w (pc + 1) lv (va :: vb :: va :: vb :: rest)) : AW G E nL nx cells slots w pc lv (va :: vb :: rest) := fun H locs ls hP hS hl => lv_dup2_11 X.1 X.2.1 hdg hva hvb (k H locs ls hP hS hl)
theorem aw_dup2L (X : aw_X G own cc nL ret nm al n0 d mc ms E) {va : Value} (hdg : decode cc pc = .ok (.dup2, 1)) (hva : va.category = 2) (k : AW G E nL nx cells slots w (pc + 1) lv (va :: va :: rest)) : AW G E nL nx cells slots w pc lv (va :: rest) := fun H locs ls hP hS hl => lv_dup2_2 X.1 X.2.1 hdg hva (k H locs ls hP hS hl)
theorem aw_pop2L (X : aw_X G own cc nL ret nm al n0 d mc ms E) {va : Value} (hdg : decode cc pc = .ok (.pop2, 1)) (hva : va.category = 2) (k : AW G E nL nx cells slots w (pc + 1) lv rest) : AW G E nL nx cells slots w pc lv (va :: rest) := fun H locs ls hP hS hl => lv_pop2_2 X.1 X.2.1 hdg hva (k H locs ls hP hS hl)
theorem aw_null (X : aw_X G own cc nL ret nm al n0 d mc ms E)  (hdg : decode cc pc = .ok (.aconst_null, 1))  (k : AW G E nL nx cells slots w (pc + 1) lv (.null :: rest)) : AW G E nL nx cells slots w pc lv rest := fun H locs ls hP hS hl => lv_null X.1 X.2.1 hdg  (k H locs ls hP hS hl)
theorem aw_iload_n (X : aw_X G own cc nL ret nm al n0 d mc ms E) {k : Fin 4} {x : Int32} (hdg : decode cc pc = .ok (.iload_n k, 1)) (hv : aw_lg lv k = some (.int x)) (kk : AW G E nL nx cells slots w (pc + 1) lv (.int x :: rest)) : AW G E nL nx cells slots w pc lv rest := fun H locs ls hP hS hl => lv_iload_n X.1 X.2.1 hdg rfl (aw_la hl hv) (kk H locs ls hP hS hl)
theorem aw_iload (X : aw_X G own cc nL ret nm al n0 d mc ms E) {i : Nat} {x : Int32} (hdg : decode cc pc = .ok (.iload i, 2)) (hv : aw_lg lv i = some (.int x)) (kk : AW G E nL nx cells slots w (pc + 2) lv (.int x :: rest)) : AW G E nL nx cells slots w pc lv rest := fun H locs ls hP hS hl => lv_iload X.1 X.2.1 hdg (aw_la hl hv) (kk H locs ls hP hS hl)
theorem aw_lload_n (X : aw_X G own cc nL ret nm al n0 d mc ms E) {k : Fin 4} {x : Int64} (hdg : decode cc pc = .ok (.lload_n k, 1)) (hv : aw_lg lv k = some (.long x)) (kk : AW G E nL nx cells slots w (pc + 1) lv (.long x :: rest)) : AW G E nL nx cells slots w pc lv rest := fun H locs ls hP hS hl => lv_lload_n X.1 X.2.1 hdg rfl (aw_la hl hv) (kk H locs ls hP hS hl)
theorem aw_lload (X : aw_X G own cc nL ret nm al n0 d mc ms E) {i : Nat} {x : Int64} (hdg : decode cc pc = .ok (.lload i, 2)) (hv : aw_lg lv i = some (.long x)) (kk : AW G E nL nx cells slots w (pc + 2) lv (.long x :: rest)) : AW G E nL nx cells slots w pc lv rest := fun H locs ls hP hS hl => lv_lload X.1 X.2.1 hdg (aw_la hl hv) (kk H locs ls hP hS hl)
theorem aw_aload_n (X : aw_X G own cc nL ret nm al n0 d mc ms E) {k : Fin 4} {x : Nat} (hdg : decode cc pc = .ok (.aload_n k, 1)) (hv : aw_lg lv k = some (.ref x)) (kk : AW G E nL nx cells slots w (pc + 1) lv (.ref x :: rest)) : AW G E nL nx cells slots w pc lv rest := fun H locs ls hP hS hl => lv_aload_n X.1 X.2.1 hdg rfl (aw_la hl hv) (kk H locs ls hP hS hl)
theorem aw_aload (X : aw_X G own cc nL ret nm al n0 d mc ms E) {i : Nat} {x : Nat} (hdg : decode cc pc = .ok (.aload i, 2)) (hv : aw_lg lv i = some (.ref x)) (kk : AW G E nL nx cells slots w (pc + 2) lv (.ref x :: rest)) : AW G E nL nx cells slots w pc lv rest := fun H locs ls hP hS hl => lv_aload X.1 X.2.1 hdg (aw_la hl hv) (kk H locs ls hP hS hl)
theorem aw_aload_nR (X : aw_X G own cc nL ret nm al n0 d mc ms E) {k : Fin 4} {a : Nat} (hdg : decode cc pc = .ok (.aload_n k, 1)) (hv : aw_lg lv k = some (rf G a)) (kk : AW G E nL nx cells slots w (pc + 1) lv (rf G a :: rest)) : AW G E nL nx cells slots w pc lv rest := fun H locs ls hP hS hl => lv_aload_n X.1 X.2.1 hdg rfl (aw_la hl hv) (kk H locs ls hP hS hl)
theorem aw_aloadR (X : aw_X G own cc nL ret nm al n0 d mc ms E) {i a : Nat} (hdg : decode cc pc = .ok (.aload i, 2)) (hv : aw_lg lv i = some (rf G a)) (kk : AW G E nL nx cells slots w (pc + 2) lv (rf G a :: rest)) : AW G E nL nx cells slots w pc lv rest := fun H locs ls hP hS hl => lv_aload X.1 X.2.1 hdg (aw_la hl hv) (kk H locs ls hP hS hl)
theorem aw_aload_nN (X : aw_X G own cc nL ret nm al n0 d mc ms E) {k : Fin 4} (hdg : decode cc pc = .ok (.aload_n k, 1)) (hv : aw_lg lv k = some .null) (kk : AW G E nL nx cells slots w (pc + 1) lv (.null :: rest)) : AW G E nL nx cells slots w pc lv rest := fun H locs ls hP hS hl => lv_aload_nN X.1 X.2.1 hdg rfl (aw_la hl hv) (kk H locs ls hP hS hl)
theorem aw_aloadN (X : aw_X G own cc nL ret nm al n0 d mc ms E) {i : Nat} (hdg : decode cc pc = .ok (.aload i, 2)) (hv : aw_lg lv i = some .null) (kk : AW G E nL nx cells slots w (pc + 2) lv (.null :: rest)) : AW G E nL nx cells slots w pc lv rest := fun H locs ls hP hS hl => lv_aloadN X.1 X.2.1 hdg (aw_la hl hv) (kk H locs ls hP hS hl)
theorem aw_istore_n (X : aw_X G own cc nL ret nm al n0 d mc ms E) {k : Fin 4} {x : Int32} {lv' : List (Nat × Value)} (hdg : decode cc pc = .ok (.istore_n k, 1)) (hn : ((k : Nat) < nL)) (h : ((k : Nat), Value.int x) :: lv.filter (fun q => !(q.1 == (k : Nat)) && !(q.1 + 1 == (k : Nat) && q.2.category == 2)) = lv') (kk : AW G E nL nx cells slots w (pc + 1) lv' rest) : AW G E nL nx cells slots w pc lv (.int x :: rest) := fun H locs ls hP hS hl => lv_istore_n X.1 X.2.1 hdg rfl hl hn h (fun ls' hl' => kk H locs ls' hP hS hl')
theorem aw_istore (X : aw_X G own cc nL ret nm al n0 d mc ms E) {i : Nat} {x : Int32} {lv' : List (Nat × Value)} (hdg : decode cc pc = .ok (.istore i, 2)) (hn : (i < nL)) (h : (i, Value.int x) :: lv.filter (fun q => !(q.1 == i) && !(q.1 + 1 == i && q.2.category == 2)) = lv') (kk : AW G E nL nx cells slots w (pc + 2) lv' rest) : AW G E nL nx cells slots w pc lv (.int x :: rest) := fun H locs ls hP hS hl => lv_istore X.1 X.2.1 hdg hl hn h (fun ls' hl' => kk H locs ls' hP hS hl')
theorem aw_lstore_n (X : aw_X G own cc nL ret nm al n0 d mc ms E) {k : Fin 4} {x : Int64} {lv' : List (Nat × Value)} (hdg : decode cc pc = .ok (.lstore_n k, 1)) (hn : ((k : Nat) + 1 < nL)) (h : ((k : Nat), Value.long x) :: lv.filter (fun q => !(q.1 == (k : Nat)) && (!(q.1 == (k : Nat) + 1) && !(q.1 + 1 == (k : Nat) && q.2.category == 2))) = lv') (kk : AW G E nL nx cells slots w (pc + 1) lv' rest) : AW G E nL nx cells slots w pc lv (.long x :: rest) := fun H locs ls hP hS hl => lv_lstore_n X.1 X.2.1 hdg rfl hl hn h (fun ls' hl' => kk H locs ls' hP hS hl')
theorem aw_lstore (X : aw_X G own cc nL ret nm al n0 d mc ms E) {i : Nat} {x : Int64} {lv' : List (Nat × Value)} (hdg : decode cc pc = .ok (.lstore i, 2)) (hn : (i + 1 < nL)) (h : (i, Value.long x) :: lv.filter (fun q => !(q.1 == i) && (!(q.1 == i + 1) && !(q.1 + 1 == i && q.2.category == 2))) = lv') (kk : AW G E nL nx cells slots w (pc + 2) lv' rest) : AW G E nL nx cells slots w pc lv (.long x :: rest) := fun H locs ls hP hS hl => lv_lstore X.1 X.2.1 hdg hl hn h (fun ls' hl' => kk H locs ls' hP hS hl')
theorem aw_astore_n (X : aw_X G own cc nL ret nm al n0 d mc ms E) {k : Fin 4} {x : Nat} {lv' : List (Nat × Value)} (hdg : decode cc pc = .ok (.astore_n k, 1)) (hn : ((k : Nat) < nL)) (h : ((k : Nat), Value.ref x) :: lv.filter (fun q => !(q.1 == (k : Nat)) && !(q.1 + 1 == (k : Nat) && q.2.category == 2)) = lv') (kk : AW G E nL nx cells slots w (pc + 1) lv' rest) : AW G E nL nx cells slots w pc lv (.ref x :: rest) := fun H locs ls hP hS hl => lv_astore_n X.1 X.2.1 hdg rfl hl hn h (fun ls' hl' => kk H locs ls' hP hS hl')
theorem aw_astore (X : aw_X G own cc nL ret nm al n0 d mc ms E) {i : Nat} {x : Nat} {lv' : List (Nat × Value)} (hdg : decode cc pc = .ok (.astore i, 2)) (hn : (i < nL)) (h : (i, Value.ref x) :: lv.filter (fun q => !(q.1 == i) && !(q.1 + 1 == i && q.2.category == 2)) = lv') (kk : AW G E nL nx cells slots w (pc + 2) lv' rest) : AW G E nL nx cells slots w pc lv (.ref x :: rest) := fun H locs ls hP hS hl => lv_astore X.1 X.2.1 hdg hl hn h (fun ls' hl' => kk H locs ls' hP hS hl')
theorem aw_astore_nR (X : aw_X G own cc nL ret nm al n0 d mc ms E) {k : Fin 4} {a : Nat} {lv' : List (Nat × Value)} (hdg : decode cc pc = .ok (.astore_n k, 1)) (hn : (k : Nat) < nL) (h : ((k : Nat), rf G a) :: lv.filter (fun q => !(q.1 == (k : Nat)) && !(q.1 + 1 == (k : Nat) && q.2.category == 2)) = lv') (kk : AW G E nL nx cells slots w (pc + 1) lv' rest) : AW G E nL nx cells slots w pc lv (rf G a :: rest) := fun H locs ls hP hS hl => lv_astore_n X.1 X.2.1 hdg rfl hl hn h (fun ls' hl' => kk H locs ls' hP hS hl')
theorem aw_astoreR (X : aw_X G own cc nL ret nm al n0 d mc ms E) {i a : Nat} {lv' : List (Nat × Value)} (hdg : decode cc pc = .ok (.astore i, 2)) (hn : i < nL) (h : (i, rf G a) :: lv.filter (fun q => !(q.1 == i) && !(q.1 + 1 == i && q.2.category == 2)) = lv') (kk : AW G E nL nx cells slots w (pc + 2) lv' rest) : AW G E nL nx cells slots w pc lv (rf G a :: rest) := fun H locs ls hP hS hl => lv_astore X.1 X.2.1 hdg hl hn h (fun ls' hl' => kk H locs ls' hP hS hl')
theorem aw_astore_nN (X : aw_X G own cc nL ret nm al n0 d mc ms E) {k : Fin 4}  {lv' : List (Nat × Value)} (hdg : decode cc pc = .ok (.astore_n k, 1)) (hn : ((k : Nat) < nL)) (h : ((k : Nat), Value.null) :: lv.filter (fun q => !(q.1 == (k : Nat)) && !(q.1 + 1 == (k : Nat) && q.2.category == 2)) = lv') (kk : AW G E nL nx cells slots w (pc + 1) lv' rest) : AW G E nL nx cells slots w pc lv (.null :: rest) := fun H locs ls hP hS hl => lv_astore_nN X.1 X.2.1 hdg rfl hl hn h (fun ls' hl' => kk H locs ls' hP hS hl')
theorem aw_astoreN (X : aw_X G own cc nL ret nm al n0 d mc ms E) {i : Nat}  {lv' : List (Nat × Value)} (hdg : decode cc pc = .ok (.astore i, 2)) (hn : (i < nL)) (h : (i, Value.null) :: lv.filter (fun q => !(q.1 == i) && !(q.1 + 1 == i && q.2.category == 2)) = lv') (kk : AW G E nL nx cells slots w (pc + 2) lv' rest) : AW G E nL nx cells slots w pc lv (.null :: rest) := fun H locs ls hP hS hl => lv_astoreN X.1 X.2.1 hdg hl hn h (fun ls' hl' => kk H locs ls' hP hS hl')
theorem aw_iinc (X : aw_X G own cc nL ret nm al n0 d mc ms E) {i : Nat} {n : Int} {x v : Int32} {lv' : List (Nat × Value)} (hdg : decode cc pc = .ok (.iinc i n, 3)) (hx : aw_lg lv i = some (.int x)) (hv : x + Int32.ofInt n = v) (hn : i < nL) (h : (i, Value.int v) :: lv.filter (fun q => !(q.1 == i) && !(q.1 + 1 == i && q.2.category == 2)) = lv') (kk : AW G E nL nx cells slots w (pc + 3) lv' rest) : AW G E nL nx cells slots w pc lv rest := fun H locs ls hP hS hl => by
  obtain ⟨k, hk⟩ := List.getElem?_of_mem (aw_lg_mem hx)
  exact lv_iinc (k := k) X.1 X.2.1 hdg hl hk hv hn h (fun ls' hl' => kk H locs ls' hP hS hl')
theorem aw_if_eq (X : aw_X G own cc nL ret nm al n0 d mc ms E) {x : Int32} {off : Int} {tgt : Nat} (hdg : decode cc pc = .ok (.ifCond .eq off, 3)) (ht : (pc : Int) + off = (tgt : Int)) (kt : x = 0 → AW G E nL nx cells slots w tgt lv rest) (kf : ¬ x = 0 → AW G E nL nx cells slots w (pc + 3) lv rest) : AW G E nL nx cells slots w pc lv (.int x :: rest) := fun H locs ls hP hS hl => lv_if_eq X.1 X.2.1 hdg ht (fun h => kt h H locs ls hP hS hl) (fun h => kf h H locs ls hP hS hl)
theorem aw_icmp_eq (X : aw_X G own cc nL ret nm al n0 d mc ms E) {x y : Int32} {off : Int} {tgt : Nat} (hdg : decode cc pc = .ok (.if_icmp .eq off, 3)) (ht : (pc : Int) + off = (tgt : Int)) (kt : x = y → AW G E nL nx cells slots w tgt lv rest) (kf : ¬ x = y → AW G E nL nx cells slots w (pc + 3) lv rest) : AW G E nL nx cells slots w pc lv (.int y :: .int x :: rest) := fun H locs ls hP hS hl => lv_icmp_eq X.1 X.2.1 hdg ht (fun h => kt h H locs ls hP hS hl) (fun h => kf h H locs ls hP hS hl)
theorem aw_if_ne (X : aw_X G own cc nL ret nm al n0 d mc ms E) {x : Int32} {off : Int} {tgt : Nat} (hdg : decode cc pc = .ok (.ifCond .ne off, 3)) (ht : (pc : Int) + off = (tgt : Int)) (kt : ¬ x = 0 → AW G E nL nx cells slots w tgt lv rest) (kf : x = 0 → AW G E nL nx cells slots w (pc + 3) lv rest) : AW G E nL nx cells slots w pc lv (.int x :: rest) := fun H locs ls hP hS hl => lv_if_ne X.1 X.2.1 hdg ht (fun h => kt h H locs ls hP hS hl) (fun h => kf h H locs ls hP hS hl)
theorem aw_icmp_ne (X : aw_X G own cc nL ret nm al n0 d mc ms E) {x y : Int32} {off : Int} {tgt : Nat} (hdg : decode cc pc = .ok (.if_icmp .ne off, 3)) (ht : (pc : Int) + off = (tgt : Int)) (kt : ¬ x = y → AW G E nL nx cells slots w tgt lv rest) (kf : x = y → AW G E nL nx cells slots w (pc + 3) lv rest) : AW G E nL nx cells slots w pc lv (.int y :: .int x :: rest) := fun H locs ls hP hS hl => lv_icmp_ne X.1 X.2.1 hdg ht (fun h => kt h H locs ls hP hS hl) (fun h => kf h H locs ls hP hS hl)
theorem aw_if_lt (X : aw_X G own cc nL ret nm al n0 d mc ms E) {x : Int32} {off : Int} {tgt : Nat} (hdg : decode cc pc = .ok (.ifCond .lt off, 3)) (ht : (pc : Int) + off = (tgt : Int)) (kt : x < 0 → AW G E nL nx cells slots w tgt lv rest) (kf : ¬ x < 0 → AW G E nL nx cells slots w (pc + 3) lv rest) : AW G E nL nx cells slots w pc lv (.int x :: rest) := fun H locs ls hP hS hl => lv_if_lt X.1 X.2.1 hdg ht (fun h => kt h H locs ls hP hS hl) (fun h => kf h H locs ls hP hS hl)
theorem aw_icmp_lt (X : aw_X G own cc nL ret nm al n0 d mc ms E) {x y : Int32} {off : Int} {tgt : Nat} (hdg : decode cc pc = .ok (.if_icmp .lt off, 3)) (ht : (pc : Int) + off = (tgt : Int)) (kt : x < y → AW G E nL nx cells slots w tgt lv rest) (kf : ¬ x < y → AW G E nL nx cells slots w (pc + 3) lv rest) : AW G E nL nx cells slots w pc lv (.int y :: .int x :: rest) := fun H locs ls hP hS hl => lv_icmp_lt X.1 X.2.1 hdg ht (fun h => kt h H locs ls hP hS hl) (fun h => kf h H locs ls hP hS hl)
theorem aw_if_ge (X : aw_X G own cc nL ret nm al n0 d mc ms E) {x : Int32} {off : Int} {tgt : Nat} (hdg : decode cc pc = .ok (.ifCond .ge off, 3)) (ht : (pc : Int) + off = (tgt : Int)) (kt : 0 ≤ x → AW G E nL nx cells slots w tgt lv rest) (kf : ¬ 0 ≤ x → AW G E nL nx cells slots w (pc + 3) lv rest) : AW G E nL nx cells slots w pc lv (.int x :: rest) := fun H locs ls hP hS hl => lv_if_ge X.1 X.2.1 hdg ht (fun h => kt h H locs ls hP hS hl) (fun h => kf h H locs ls hP hS hl)
theorem aw_icmp_ge (X : aw_X G own cc nL ret nm al n0 d mc ms E) {x y : Int32} {off : Int} {tgt : Nat} (hdg : decode cc pc = .ok (.if_icmp .ge off, 3)) (ht : (pc : Int) + off = (tgt : Int)) (kt : y ≤ x → AW G E nL nx cells slots w tgt lv rest) (kf : ¬ y ≤ x → AW G E nL nx cells slots w (pc + 3) lv rest) : AW G E nL nx cells slots w pc lv (.int y :: .int x :: rest) := fun H locs ls hP hS hl => lv_icmp_ge X.1 X.2.1 hdg ht (fun h => kt h H locs ls hP hS hl) (fun h => kf h H locs ls hP hS hl)
theorem aw_if_gt (X : aw_X G own cc nL ret nm al n0 d mc ms E) {x : Int32} {off : Int} {tgt : Nat} (hdg : decode cc pc = .ok (.ifCond .gt off, 3)) (ht : (pc : Int) + off = (tgt : Int)) (kt : 0 < x → AW G E nL nx cells slots w tgt lv rest) (kf : ¬ 0 < x → AW G E nL nx cells slots w (pc + 3) lv rest) : AW G E nL nx cells slots w pc lv (.int x :: rest) := fun H locs ls hP hS hl => lv_if_gt X.1 X.2.1 hdg ht (fun h => kt h H locs ls hP hS hl) (fun h => kf h H locs ls hP hS hl)
theorem aw_icmp_gt (X : aw_X G own cc nL ret nm al n0 d mc ms E) {x y : Int32} {off : Int} {tgt : Nat} (hdg : decode cc pc = .ok (.if_icmp .gt off, 3)) (ht : (pc : Int) + off = (tgt : Int)) (kt : y < x → AW G E nL nx cells slots w tgt lv rest) (kf : ¬ y < x → AW G E nL nx cells slots w (pc + 3) lv rest) : AW G E nL nx cells slots w pc lv (.int y :: .int x :: rest) := fun H locs ls hP hS hl => lv_icmp_gt X.1 X.2.1 hdg ht (fun h => kt h H locs ls hP hS hl) (fun h => kf h H locs ls hP hS hl)
theorem aw_if_le (X : aw_X G own cc nL ret nm al n0 d mc ms E) {x : Int32} {off : Int} {tgt : Nat} (hdg : decode cc pc = .ok (.ifCond .le off, 3)) (ht : (pc : Int) + off = (tgt : Int)) (kt : x ≤ 0 → AW G E nL nx cells slots w tgt lv rest) (kf : ¬ x ≤ 0 → AW G E nL nx cells slots w (pc + 3) lv rest) : AW G E nL nx cells slots w pc lv (.int x :: rest) := fun H locs ls hP hS hl => lv_if_le X.1 X.2.1 hdg ht (fun h => kt h H locs ls hP hS hl) (fun h => kf h H locs ls hP hS hl)
theorem aw_icmp_le (X : aw_X G own cc nL ret nm al n0 d mc ms E) {x y : Int32} {off : Int} {tgt : Nat} (hdg : decode cc pc = .ok (.if_icmp .le off, 3)) (ht : (pc : Int) + off = (tgt : Int)) (kt : x ≤ y → AW G E nL nx cells slots w tgt lv rest) (kf : ¬ x ≤ y → AW G E nL nx cells slots w (pc + 3) lv rest) : AW G E nL nx cells slots w pc lv (.int y :: .int x :: rest) := fun H locs ls hP hS hl => lv_icmp_le X.1 X.2.1 hdg ht (fun h => kt h H locs ls hP hS hl) (fun h => kf h H locs ls hP hS hl)
theorem aw_goto (X : aw_X G own cc nL ret nm al n0 d mc ms E) {off : Int} {tgt : Nat} (hdg : decode cc pc = .ok (.goto off, 3)) (ht : (pc : Int) + off = (tgt : Int)) (k : AW G E nL nx cells slots w tgt lv rest) : AW G E nL nx cells slots w pc lv rest := fun H locs ls hP hS hl => lv_goto X.1 X.2.1 hdg ht (k H locs ls hP hS hl)
theorem aw_ifnonnull (X : aw_X G own cc nL ret nm al n0 d mc ms E) {x : Nat} {off : Int} {tgt : Nat} (hdg : decode cc pc = .ok (.ifnonnull off, 3)) (ht : (pc : Int) + off = (tgt : Int)) (k : AW G E nL nx cells slots w tgt lv rest) : AW G E nL nx cells slots w pc lv (.ref x :: rest) := fun H locs ls hP hS hl => lv_ifnonnull X.1 X.2.1 hdg ht (k H locs ls hP hS hl)
theorem aw_ifnonnullN (X : aw_X G own cc nL ret nm al n0 d mc ms E) {off : Int} (hdg : decode cc pc = .ok (.ifnonnull off, 3)) (k : AW G E nL nx cells slots w (pc + 3) lv rest) : AW G E nL nx cells slots w pc lv (.null :: rest) := fun H locs ls hP hS hl => lv_ifnonnullN X.1 X.2.1 hdg (k H locs ls hP hS hl)
theorem aw_ifnull (X : aw_X G own cc nL ret nm al n0 d mc ms E) {x : Nat} {off : Int} (hdg : decode cc pc = .ok (.ifnull off, 3)) (k : AW G E nL nx cells slots w (pc + 3) lv rest) : AW G E nL nx cells slots w pc lv (.ref x :: rest) := fun H locs ls hP hS hl => lv_ifnull X.1 X.2.1 hdg (k H locs ls hP hS hl)
theorem aw_ifnullN (X : aw_X G own cc nL ret nm al n0 d mc ms E) {off : Int} {tgt : Nat} (hdg : decode cc pc = .ok (.ifnull off, 3)) (ht : (pc : Int) + off = (tgt : Int)) (k : AW G E nL nx cells slots w tgt lv rest) : AW G E nL nx cells slots w pc lv (.null :: rest) := fun H locs ls hP hS hl => lv_ifnullN X.1 X.2.1 hdg ht (k H locs ls hP hS hl)
theorem aw_tableOut (X : aw_X G own cc nL ret nm al n0 d mc ms E) {dflt lo hi : Int} {offs : Array Int} {len : Nat} {x : Int32} {tgt : Nat} (hdg : decode cc pc = .ok (.tableswitch dflt lo hi offs, len)) (h : x.toInt < lo ∨ hi < x.toInt) (ht : (pc : Int) + dflt = (tgt : Int)) (k : AW G E nL nx cells slots w tgt lv rest) : AW G E nL nx cells slots w pc lv (.int x :: rest) := fun H locs ls hP hS hl => lv_tableOut X.1 X.2.1 hdg h ht (k H locs ls hP hS hl)
theorem aw_tableIn (X : aw_X G own cc nL ret nm al n0 d mc ms E) {dflt lo hi : Int} {offs : Array Int} {len : Nat} {x : Int32} {off : Int} {tgt : Nat} (hdg : decode cc pc = .ok (.tableswitch dflt lo hi offs, len)) (h1 : ¬ x.toInt < lo) (h2 : ¬ hi < x.toInt) (ho : offs[(x.toInt - lo).toNat]? = some off) (ht : (pc : Int) + off = (tgt : Int)) (k : AW G E nL nx cells slots w tgt lv rest) : AW G E nL nx cells slots w pc lv (.int x :: rest) := fun H locs ls hP hS hl => lv_tableIn X.1 X.2.1 hdg h1 h2 ho ht (k H locs ls hP hS hl)
theorem aw_lookup (X : aw_X G own cc nL ret nm al n0 d mc ms E) {dflt : Int} {ps : Array (Int × Int)} {len : Nat} {x : Int32} {off : Int} {tgt : Nat} (hdg : decode cc pc = .ok (.lookupswitch dflt ps, len)) (hp : (ps.toList.zip (ps.toList.drop 1)).all (fun (a, next) => a.1 < next.1) = true) (ho : Op.lookupswitch.offset ps.toList dflt x.toInt = off) (ht : (pc : Int) + off = (tgt : Int)) (k : AW G E nL nx cells slots w tgt lv rest) : AW G E nL nx cells slots w pc lv (.int x :: rest) := fun H locs ls hP hS hl => lv_lookup X.1 X.2.1 hdg hp ho ht (k H locs ls hP hS hl)

theorem aw_get (X : aw_X G own cc nL ret nm al n0 d mc ms E) {C : String} {T : u_T} {N ci index : Nat} {fs : List Value} {v : Value} (a k : Nat) (ha : a < nx) (hw : w a = .inr (ci, fs)) (hc : classes[ci]? = some (C, T, N)) (hin : ∀ w ∈ u_ws C T N, w ∈ aw_tbl) (hk : k < N) (hlink : Cond.fieldLink own index (T k).1 (T k).2.1 (T k).2.2.1 ∈ aw_tbl) (hv : fs[k]? = some v) (hdg : decode cc pc = .ok (.getfield index, 3)) (kk : AW G E nL nx cells slots w (pc + 3) lv (v :: rest)) : AW G E nL nx cells slots w pc lv (rf G a :: rest) := by
  intro H locs ls hP hS hl
  obtain ⟨hx, hb, -, hown, hts, -, -, -, hK, -, -, -, -, -, -, -⟩ := X
  exact va_get hx hb hts hin hown hK hP a (by rw [aw_ws_get ha, hw]) hc k hk (hts _ hlink) (fun _ h => h) hv hdg (kk H locs ls hP hS hl)
theorem aw_getN (X : aw_X G own cc nL ret nm al n0 d mc ms E) {host : String} {C : String} {T : u_T} {N ci index : Nat} {fs : List Value} {v : Value} (a k : Nat) (ha : a < nx) (hw : w a = .inr (ci, fs)) (hc : classes[ci]? = some (C, T, N)) (hin : ∀ w ∈ u_ws C T N, w ∈ aw_tbl) (hk : k < N) (hlink : Cond.fieldLinkNest own index (T k).1 (T k).2.1 (T k).2.2.1 host ∈ aw_nest) (hv : fs[k]? = some v) (hdg : decode cc pc = .ok (.getfield index, 3)) (kk : AW G E nL nx cells slots w (pc + 3) lv (v :: rest)) : AW G E nL nx cells slots w pc lv (rf G a :: rest) := by
  intro H locs ls hP hS hl
  obtain ⟨hx, hb, -, hown, hts, -, -, -, hK, hKs, -, -, -, -, -, -⟩ := X
  exact va_getN hx hb hts hin hown hK hP a (by rw [aw_ws_get ha, hw]) hc k hk (va_Nw.use rfl (hKs.1 _ hlink)) (fun _ h => h) hv hdg (kk H locs ls hP hS hl)

theorem aw_put (X : aw_X G own cc nL ret nm al n0 d mc ms E)  {C : String} {T : u_T} {N ci index : Nat} {fs : List Value} {v : Value} (a k : Nat) (ha : a < nx) (hw : w a = .inr (ci, fs)) (hc : classes[ci]? = some (C, T, N)) (hin : ∀ w ∈ u_ws C T N, w ∈ aw_tbl) (hk : k < N) (ty0 : Nat → FieldType) (hty : ∀ k, k < N → parseFieldDescriptor (T k).2.2.1 = some (ty0 k)) (hnm : ∀ a, a < N → ∀ b, b < N → a ≠ b → (T a).2.1 ≠ (T b).2.1) (hlink : Cond.fieldLink own index (T k).1 (T k).2.1 (T k).2.2.1 ∈ aw_tbl) (hfin : (T k).2.2.2 = false)  (hn : narrow (ty0 k) v = v) (hfit : fits (ty0 k) v = true) (hl0 : k < fs.length) (hdg : decode cc pc = .ok (.putfield index, 3)) (kk : AW G E nL nx cells slots (aw_up w a (.inr (ci, fs.set k v))) (pc + 3) lv rest) : AW G E nL nx cells slots w pc lv (v :: rf G a :: rest) := by
  intro H locs ls hP hS hl
  obtain ⟨hx, hb, -, hown, hts, -, -, hnmm, hK, hKs, -, -, -, -, -, -⟩ := X
  refine va_put hx hb hts hin ty0 hty hnm hown hK hP aw_D hS a (by rw [aw_ws_get ha, hw]) hc k hk (hts _ hlink) (fun _ h => h) hfin  (hty k hk) hn hfit hl0 hdg (fun H1 locs1 hP1 hD1 hS1 => ?_)
  rw [aw_ws_set _ ha] at hP1
  exact kk H1 locs1 ls hP1 hS1 hl
theorem aw_putN (X : aw_X G own cc nL ret nm al n0 d mc ms E) {host : String} {C : String} {T : u_T} {N ci index : Nat} {fs : List Value} {v : Value} (a k : Nat) (ha : a < nx) (hw : w a = .inr (ci, fs)) (hc : classes[ci]? = some (C, T, N)) (hin : ∀ w ∈ u_ws C T N, w ∈ aw_tbl) (hk : k < N) (ty0 : Nat → FieldType) (hty : ∀ k, k < N → parseFieldDescriptor (T k).2.2.1 = some (ty0 k)) (hnm : ∀ a, a < N → ∀ b, b < N → a ≠ b → (T a).2.1 ≠ (T b).2.1) (hlink : Cond.fieldLinkNest own index (T k).1 (T k).2.1 (T k).2.2.1 host ∈ aw_nest) (hfin : (T k).2.2.2 = false)  (hn : narrow (ty0 k) v = v) (hfit : fits (ty0 k) v = true) (hl0 : k < fs.length) (hdg : decode cc pc = .ok (.putfield index, 3)) (kk : AW G E nL nx cells slots (aw_up w a (.inr (ci, fs.set k v))) (pc + 3) lv rest) : AW G E nL nx cells slots w pc lv (v :: rf G a :: rest) := by
  intro H locs ls hP hS hl
  obtain ⟨hx, hb, -, hown, hts, -, -, hnmm, hK, hKs, -, -, -, -, -, -⟩ := X
  refine va_putN hx hb hts hin ty0 hty hnm hown hK hP aw_D hS a (by rw [aw_ws_get ha, hw]) hc k hk (va_Nw.use rfl (hKs.1 _ hlink)) (fun _ h => h) hfin  (hty k hk) hn hfit hl0 hdg (fun H1 locs1 hP1 hD1 hS1 => ?_)
  rw [aw_ws_set _ ha] at hP1
  exact kk H1 locs1 ls hP1 hS1 hl
theorem aw_putF (X : aw_X G own cc nL ret nm al n0 d mc ms E)  {C : String} {T : u_T} {N ci index : Nat} {fs : List Value} {v : Value} (a k : Nat) (ha : a < nx) (hw : w a = .inr (ci, fs)) (hc : classes[ci]? = some (C, T, N)) (hin : ∀ w ∈ u_ws C T N, w ∈ aw_tbl) (hk : k < N) (ty0 : Nat → FieldType) (hty : ∀ k, k < N → parseFieldDescriptor (T k).2.2.1 = some (ty0 k)) (hnm : ∀ a, a < N → ∀ b, b < N → a ≠ b → (T a).2.1 ≠ (T b).2.1) (hlink : Cond.fieldLink own index (T k).1 (T k).2.1 (T k).2.2.1 ∈ aw_tbl) (hfin : (T k).2.2.2 = true) (hin2 : nm = "<init>") (hdecl : (T k).1 = own) (hn : narrow (ty0 k) v = v) (hfit : fits (ty0 k) v = true) (hl0 : k < fs.length) (hdg : decode cc pc = .ok (.putfield index, 3)) (kk : AW G E nL nx cells slots (aw_up w a (.inr (ci, fs.set k v))) (pc + 3) lv rest) : AW G E nL nx cells slots w pc lv (v :: rf G a :: rest) := by
  intro H locs ls hP hS hl
  obtain ⟨hx, hb, -, hown, hts, -, -, hnmm, hK, hKs, -, -, -, -, -, -⟩ := X
  refine va_putF hx hb hts hin ty0 hty hnm hown hK hP aw_D hS a (by rw [aw_ws_get ha, hw]) hc k hk (hts _ hlink) (fun _ h => h) hfin (hnmm.trans hin2) hdecl (hty k hk) hn hfit hl0 hdg (fun H1 locs1 hP1 hD1 hS1 => ?_)
  rw [aw_ws_set _ ha] at hP1
  exact kk H1 locs1 ls hP1 hS1 hl
theorem aw_iald (X : aw_X G own cc nL ret nm al n0 d mc ms E) (a t0 : Nat) {cA : ClassId} {n : Nat} {f : Nat → Int32} {i : Int32} (ha : a < nx) (hw : w a = .inl (cA, n, .inl f)) (ht : (aw_tys G)[t0]? = some (cA, .int)) (hin : vp_in i n) (hdg : decode cc pc = .ok (.iaload, 1)) (kk : AW G E nL nx cells slots w (pc + 1) lv (.int (f i.toNatClampNeg) :: rest)) : AW G E nL nx cells slots w pc lv (.int i :: rf G a :: rest) := by
  intro H locs ls hP hS hl
  obtain ⟨hx, hb, -, -, -, -, -, -, hK, -, -, -, -, -, -, -⟩ := X
  exact va_iald hx hb hK hP a t0 (by rw [aw_ws_get ha, hw]) ht hin hdg (kk H locs ls hP hS hl)
theorem aw_bald (X : aw_X G own cc nL ret nm al n0 d mc ms E) (a t0 : Nat) {cA : ClassId} {n : Nat} {f : Nat → Int32} {i : Int32} (ha : a < nx) (hw : w a = .inl (cA, n, .inl f)) (ht : (aw_tys G)[t0]? = some (cA, .byte)) (hin : vp_in i n) (hdg : decode cc pc = .ok (.baload, 1)) (kk : AW G E nL nx cells slots w (pc + 1) lv (.int (f i.toNatClampNeg) :: rest)) : AW G E nL nx cells slots w pc lv (.int i :: rf G a :: rest) := by
  intro H locs ls hP hS hl
  obtain ⟨hx, hb, -, -, -, -, -, -, hK, -, -, -, -, -, -, -⟩ := X
  exact va_bald hx hb hK hP a t0 (by rw [aw_ws_get ha, hw]) ht hin hdg (kk H locs ls hP hS hl)
theorem aw_zald (X : aw_X G own cc nL ret nm al n0 d mc ms E) (a t0 : Nat) {cA : ClassId} {n : Nat} {f : Nat → Int32} {i : Int32} (ha : a < nx) (hw : w a = .inl (cA, n, .inl f)) (ht : (aw_tys G)[t0]? = some (cA, .boolean)) (hin : vp_in i n) (hdg : decode cc pc = .ok (.baload, 1)) (kk : AW G E nL nx cells slots w (pc + 1) lv (.int (f i.toNatClampNeg) :: rest)) : AW G E nL nx cells slots w pc lv (.int i :: rf G a :: rest) := by
  intro H locs ls hP hS hl
  obtain ⟨hx, hb, -, -, -, -, -, -, hK, -, -, -, -, -, -, -⟩ := X
  exact va_zald hx hb hK hP a t0 (by rw [aw_ws_get ha, hw]) ht hin hdg (kk H locs ls hP hS hl)
theorem aw_cald (X : aw_X G own cc nL ret nm al n0 d mc ms E) (a t0 : Nat) {cA : ClassId} {n : Nat} {f : Nat → Int32} {i : Int32} (ha : a < nx) (hw : w a = .inl (cA, n, .inl f)) (ht : (aw_tys G)[t0]? = some (cA, .char)) (hin : vp_in i n) (hdg : decode cc pc = .ok (.caload, 1)) (kk : AW G E nL nx cells slots w (pc + 1) lv (.int (f i.toNatClampNeg) :: rest)) : AW G E nL nx cells slots w pc lv (.int i :: rf G a :: rest) := by
  intro H locs ls hP hS hl
  obtain ⟨hx, hb, -, -, -, -, -, -, hK, -, -, -, -, -, -, -⟩ := X
  exact va_cald hx hb hK hP a t0 (by rw [aw_ws_get ha, hw]) ht hin hdg (kk H locs ls hP hS hl)
theorem aw_sald (X : aw_X G own cc nL ret nm al n0 d mc ms E) (a t0 : Nat) {cA : ClassId} {n : Nat} {f : Nat → Int32} {i : Int32} (ha : a < nx) (hw : w a = .inl (cA, n, .inl f)) (ht : (aw_tys G)[t0]? = some (cA, .short)) (hin : vp_in i n) (hdg : decode cc pc = .ok (.saload, 1)) (kk : AW G E nL nx cells slots w (pc + 1) lv (.int (f i.toNatClampNeg) :: rest)) : AW G E nL nx cells slots w pc lv (.int i :: rf G a :: rest) := by
  intro H locs ls hP hS hl
  obtain ⟨hx, hb, -, -, -, -, -, -, hK, -, -, -, -, -, -, -⟩ := X
  exact va_sald hx hb hK hP a t0 (by rw [aw_ws_get ha, hw]) ht hin hdg (kk H locs ls hP hS hl)
theorem aw_iast (X : aw_X G own cc nL ret nm al n0 d mc ms E) (a t0 : Nat) {cA : ClassId} {n : Nat} {f : Nat → Int32} {i x : Int32} (ha : a < nx) (hw : w a = .inl (cA, n, .inl f)) (ht : (aw_tys G)[t0]? = some (cA, .int)) (hin : vp_in i n) (hdg : decode cc pc = .ok (.iastore, 1)) (kk : AW G E nL nx cells slots (aw_up w a (.inl (cA, n, .inl (upd f i.toNatClampNeg x)))) (pc + 1) lv rest) : AW G E nL nx cells slots w pc lv (.int x :: .int i :: rf G a :: rest) := by
  intro H locs ls hP hS hl
  obtain ⟨hx, hb, -, -, -, -, -, -, hK, -, -, -, -, -, -, -⟩ := X
  refine va_iast hx hb hK hP aw_D hS a t0 (by rw [aw_ws_get ha, hw]) ht hin hdg (fun H1 locs1 hP1 hD1 hS1 => ?_)
  rw [aw_ws_set _ ha] at hP1
  exact kk H1 locs1 ls hP1 hS1 hl
theorem aw_bast (X : aw_X G own cc nL ret nm al n0 d mc ms E) (a t0 : Nat) {cA : ClassId} {n : Nat} {f : Nat → Int32} {i x : Int32} (ha : a < nx) (hw : w a = .inl (cA, n, .inl f)) (ht : (aw_tys G)[t0]? = some (cA, .byte)) (hin : vp_in i n) (hdg : decode cc pc = .ok (.bastore, 1)) (kk : AW G E nL nx cells slots (aw_up w a (.inl (cA, n, .inl (upd f i.toNatClampNeg (vp_nar .byte x))))) (pc + 1) lv rest) : AW G E nL nx cells slots w pc lv (.int x :: .int i :: rf G a :: rest) := by
  intro H locs ls hP hS hl
  obtain ⟨hx, hb, -, -, -, -, -, -, hK, -, -, -, -, -, -, -⟩ := X
  refine va_bast hx hb hK hP aw_D hS a t0 (by rw [aw_ws_get ha, hw]) ht hin hdg (fun H1 locs1 hP1 hD1 hS1 => ?_)
  rw [aw_ws_set _ ha] at hP1
  exact kk H1 locs1 ls hP1 hS1 hl
theorem aw_zast (X : aw_X G own cc nL ret nm al n0 d mc ms E) (a t0 : Nat) {cA : ClassId} {n : Nat} {f : Nat → Int32} {i x : Int32} (ha : a < nx) (hw : w a = .inl (cA, n, .inl f)) (ht : (aw_tys G)[t0]? = some (cA, .boolean)) (hin : vp_in i n) (hdg : decode cc pc = .ok (.bastore, 1)) (kk : AW G E nL nx cells slots (aw_up w a (.inl (cA, n, .inl (upd f i.toNatClampNeg (vp_nar .boolean x))))) (pc + 1) lv rest) : AW G E nL nx cells slots w pc lv (.int x :: .int i :: rf G a :: rest) := by
  intro H locs ls hP hS hl
  obtain ⟨hx, hb, -, -, -, -, -, -, hK, -, -, -, -, -, -, -⟩ := X
  refine va_zast hx hb hK hP aw_D hS a t0 (by rw [aw_ws_get ha, hw]) ht hin hdg (fun H1 locs1 hP1 hD1 hS1 => ?_)
  rw [aw_ws_set _ ha] at hP1
  exact kk H1 locs1 ls hP1 hS1 hl
theorem aw_cast (X : aw_X G own cc nL ret nm al n0 d mc ms E) (a t0 : Nat) {cA : ClassId} {n : Nat} {f : Nat → Int32} {i x : Int32} (ha : a < nx) (hw : w a = .inl (cA, n, .inl f)) (ht : (aw_tys G)[t0]? = some (cA, .char)) (hin : vp_in i n) (hdg : decode cc pc = .ok (.castore, 1)) (kk : AW G E nL nx cells slots (aw_up w a (.inl (cA, n, .inl (upd f i.toNatClampNeg (vp_nar .char x))))) (pc + 1) lv rest) : AW G E nL nx cells slots w pc lv (.int x :: .int i :: rf G a :: rest) := by
  intro H locs ls hP hS hl
  obtain ⟨hx, hb, -, -, -, -, -, -, hK, -, -, -, -, -, -, -⟩ := X
  refine va_cast hx hb hK hP aw_D hS a t0 (by rw [aw_ws_get ha, hw]) ht hin hdg (fun H1 locs1 hP1 hD1 hS1 => ?_)
  rw [aw_ws_set _ ha] at hP1
  exact kk H1 locs1 ls hP1 hS1 hl
theorem aw_lald (X : aw_X G own cc nL ret nm al n0 d mc ms E) (a t0 : Nat) {cA : ClassId} {n : Nat} {f : Nat → Int64} {i : Int32} (ha : a < nx) (hw : w a = .inl (cA, n, .inr (.inl f))) (ht : (aw_tys G)[t0]? = some (cA, .long)) (hin : vp_in i n) (hdg : decode cc pc = .ok (.laload, 1)) (kk : AW G E nL nx cells slots w (pc + 1) lv (.long (f i.toNatClampNeg) :: rest)) : AW G E nL nx cells slots w pc lv (.int i :: rf G a :: rest) := by
  intro H locs ls hP hS hl
  obtain ⟨hx, hb, -, -, -, -, -, -, hK, -, -, -, -, -, -, -⟩ := X
  exact va_lald hx hb hK hP a t0 (by rw [aw_ws_get ha, hw]) ht hin hdg (kk H locs ls hP hS hl)
theorem aw_last (X : aw_X G own cc nL ret nm al n0 d mc ms E) (a t0 : Nat) {cA : ClassId} {n : Nat} {f : Nat → Int64} {i : Int32} {x : Int64} (ha : a < nx) (hw : w a = .inl (cA, n, .inr (.inl f))) (ht : (aw_tys G)[t0]? = some (cA, .long)) (hin : vp_in i n) (hdg : decode cc pc = .ok (.lastore, 1)) (kk : AW G E nL nx cells slots (aw_up w a (.inl (cA, n, .inr (.inl (vp_updL f i.toNatClampNeg x))))) (pc + 1) lv rest) : AW G E nL nx cells slots w pc lv (.long x :: .int i :: rf G a :: rest) := by
  intro H locs ls hP hS hl
  obtain ⟨hx, hb, -, -, -, -, -, -, hK, -, -, -, -, -, -, -⟩ := X
  refine va_last hx hb hK hP aw_D hS a t0 (by rw [aw_ws_get ha, hw]) ht hin hdg (fun H1 locs1 hP1 hD1 hS1 => ?_)
  rw [aw_ws_set _ ha] at hP1
  exact kk H1 locs1 ls hP1 hS1 hl
theorem aw_aald (X : aw_X G own cc nL ret nm al n0 d mc ms E) (a t0 : Nat) {cA : ClassId} {C : String} {n : Nat} {f : Nat → Option Nat} {i : Int32} (ha : a < nx) (hw : w a = .inl (cA, n, .inr (.inr (.inr (.inr f))))) (ht : (aw_tys G)[t0]? = some (cA, .object C)) (hin : vp_in i n) (hdg : decode cc pc = .ok (.aaload, 1)) (kk : AW G E nL nx cells slots w (pc + 1) lv (va_rf (f i.toNatClampNeg) :: rest)) : AW G E nL nx cells slots w pc lv (.int i :: rf G a :: rest) := by
  intro H locs ls hP hS hl
  obtain ⟨hx, hb, -, -, -, -, -, -, hK, -, -, -, -, -, -, -⟩ := X
  exact va_aldq hx hb hK hP a t0 (by rw [aw_ws_get ha, hw]) ht hin hdg (kk H locs ls hP hS hl)
theorem aw_aast (X : aw_X G own cc nL ret nm al n0 d mc ms E) (a t0 v ci : Nat) {cA : ClassId} {r : vw_C} {n : Nat} {vs : List Value} {f : Nat → Option Nat} {i : Int32} (ha : a < nx) (hw : w a = .inl (cA, n, .inr (.inr (.inr (.inr f))))) (ht : (aw_tys G)[t0]? = some (cA, .object r.1)) (hv : v < nx) (hwv : w v = .inr (ci, vs)) (hc : classes[ci]? = some r) (hin : vp_in i n) (hdg : decode cc pc = .ok (.aastore, 1)) (kk : AW G E nL nx cells slots (aw_up w a (.inl (cA, n, .inr (.inr (.inr (.inr (va_up f i.toNatClampNeg (some (G.2.2.1 + v))))))))) (pc + 1) lv rest) : AW G E nL nx cells slots w pc lv (rf G v :: .int i :: rf G a :: rest) := by
  intro H locs ls hP hS hl
  obtain ⟨hx, hb, -, -, -, -, -, -, hK, -, -, -, -, -, -, -⟩ := X
  refine va_astq hx hb hK hP aw_D hS a t0 v ci (by rw [aw_ws_get ha, hw]) ht (by rw [aw_ws_get hv, hwv]) hc hin hdg (fun H1 locs1 hP1 hD1 hS1 => ?_)
  rw [aw_ws_set _ ha] at hP1
  exact kk H1 locs1 ls hP1 hS1 hl
theorem aw_alen (X : aw_X G own cc nL ret nm al n0 d mc ms E) (a t0 : Nat) {cA : ClassId} {x : vp_A} {ty : FieldType} (ha : a < nx) (hw : w a = .inl (cA, x)) (ht : (aw_tys G)[t0]? = some (cA, ty)) (hdg : decode cc pc = .ok (.arraylength, 1)) (kk : AW G E nL nx cells slots w (pc + 1) lv (.int (nI x.1) :: rest)) : AW G E nL nx cells slots w pc lv (rf G a :: rest) := by
  intro H locs ls hP hS hl
  obtain ⟨hx, hb, -, -, -, -, -, -, hK, -, -, -, -, -, -, -⟩ := X
  exact va_alen hx hb hK hP a t0 (by rw [aw_ws_get ha, hw]) ht rfl hdg (kk H locs ls hP hS hl)
theorem aw_lcmp (X : aw_X G own cc nL ret nm al n0 d mc ms E) {x y : Int64} (hdg : decode cc pc = .ok (.lcmp, 1)) (k : AW G E nL nx cells slots w (pc + 1) lv (.int (lg_cmp x y) :: rest)) : AW G E nL nx cells slots w pc lv (.long y :: .long x :: rest) := fun H locs ls hP hS hl => W.lcmp X.1 X.2.1 hdg (k H locs ls hP hS hl)
theorem aw_ldc (X : aw_X G own cc nL ret nm al n0 d mc ms E) {index : Nat} {v : Int32} (hco : Cond.constant own index v ∈ aw_tbl) (hdg : decode cc pc = .ok (.ldc index, 2)) (k : AW G E nL nx cells slots w (pc + 2) lv (.int v :: rest)) : AW G E nL nx cells slots w pc lv rest := fun H locs ls hP hS hl => lv_ldc X.1 X.2.1 X.2.2.2.1 (X.2.2.2.2.1 _ hco) hdg (k H locs ls hP hS hl)
theorem aw_ldc2 (X : aw_X G own cc nL ret nm al n0 d mc ms E) {index : Nat} {v : Int64} (hco : Cond.constantLong own index v ∈ aw_tbl) (hdg : decode cc pc = .ok (.ldc2_w index, 3)) (k : AW G E nL nx cells slots w (pc + 3) lv (.long v :: rest)) : AW G E nL nx cells slots w pc lv rest := fun H locs ls hP hS hl => lv_ldc2 X.1 X.2.1 X.2.2.2.1 (X.2.2.2.2.1 _ hco) hdg (k H locs ls hP hS hl)

theorem aw_lo {H : Heap} (hP : va_P G.2.1 classes (aw_ws G.2.2.1 nx w) H) (hb : G.2.2.1 ≤ H.size) : G.2.2.1 + nx ≤ H.size := by
  cases nx with
  | zero => exact hb
  | succ n => exact (hP n _ (aw_ws_get (Nat.lt_succ_self n))).lt
theorem aw_q {H : Heap} {q : Nat} {ce : va_E} (hP : va_P G.2.1 classes (aw_ws G.2.2.1 nx w ++ [(q, ce)]) H) (hD : va_D (aw_own G) (aw_ws G.2.2.1 nx w ++ [(q, ce)])) (hH : H.size ≤ G.2.2.1 + (nx + 1)) : q = G.2.2.1 + nx := by
  have hg : (aw_ws G.2.2.1 nx w ++ [(q, ce)])[nx]? = some (q, ce) := by
    rw [List.getElem?_append_right (by rw [aw_ws_len]; exact Nat.le_refl _), aw_ws_len]; simp
  have h1 : q < H.size := (hP nx _ hg).lt
  have h2 : G.2.2.1 ≤ q := hD.2 nx _ hg
  refine Classical.byContradiction fun hne => ?_
  have h3 : q - G.2.2.1 < nx := by omega
  have hg2 : (aw_ws G.2.2.1 nx w ++ [(q, ce)])[q - G.2.2.1]? = some (G.2.2.1 + (q - G.2.2.1), w (q - G.2.2.1)) := by
    rw [List.getElem?_append_left (by rw [aw_ws_len]; exact h3), aw_ws_get h3]
  have := hD.1 _ _ _ _ hg2 hg (by show G.2.2.1 + (q - G.2.2.1) = q; omega)
  omega
theorem aw_size (X : aw_X G own cc nL ret nm al n0 d mc ms E) (hal : al = true) (hn : nx = n0 + cells) {R : Room} {T : State} {locs : List Loc} (St : Stand E.1 G.1 E.2.1 R E.2.2.1 E.2.2.2.1 E.2.2.2.2.1 E.2.2.2.2.2.1 E.2.2.2.2.2.2.1 E.2.2.2.2.2.2.2.1 T locs cells slots) : T.heap.size ≤ G.2.2.1 + nx := by
  have h1 : T.heap.size ≤ E.2.2.1.heap.size + cells := St.same.2.2.1
  have h2 := X.2.2.2.2.2.2.2.2.2.2.2.1 hal
  omega
theorem aw_new (X : aw_X G own cc nL ret nm al n0 d mc ms E) {C : String} {T : u_T} {N ci index : Nat} (ty0 : Nat → FieldType) (hty : ∀ k, k < N → parseFieldDescriptor (T k).2.2.1 = some (ty0 k)) (hal : al = true) (hn : nx = n0 + cells) (hc : classes[ci]? = some (C, T, N)) (hin : ∀ w ∈ u_ws C T N, w ∈ aw_tbl) (hcl : Cond.classLink own index C ∈ aw_tbl) (hinst : Cond.instantiable C N ∈ aw_tbl) (hini : Cond.initialized C ∈ aw_tbl) (fs : List Value) (hfs : ∀ j, j < N → defaultValue (ty0 j) = vp_V fs j) (hcells : cells + 1 ≤ mc) (hslots : slots + N ≤ ms) (hdg : decode cc pc = .ok (.new index, 3))
    (kk : AW G E nL (nx + 1) (cells + 1) (slots + N) (aw_up w nx (aObj ci fs)) (pc + 3) lv (rf G nx :: rest)) : AW G E nL nx cells slots w pc lv rest := by
  intro H locs ls hP hS hl
  have X0 := X
  obtain ⟨hx, hb, -, hown, hts, -, -, -, hK, -, hbs, hsz, hRf, hRl, hRc, hRs⟩ := X
  refine va_new hx hb hts hin ty0 hty hown (hts _ hcl) (hts _ hinst) (hts _ hini) hK hP aw_D hS (fun q h => Nat.le_trans hbs h) hc hfs (Nat.le_trans hcells hRc) (Nat.le_trans hslots hRs) hdg (fun q H1 hP1 hD1 hS1 => ?_)
  intro T hT St
  have hq := aw_q hP1 hD1 (by rw [← hT]; exact aw_size (nx := nx + 1) X0 hal (by omega) St)
  subst hq
  rw [aw_ws_push] at hP1
  exact kk H1 locs ls hP1 hS1 hl T hT St
theorem aw_newa (X : aw_X G own cc nL ret nm al n0 d mc ms E) {atype : ArrayType} {ty : FieldType} (hty : newarray.typeOf atype = ty) (t0 : Nat) {cA : ClassId} (ht : (aw_tys G)[t0]? = some (cA, ty)) (hob : ∀ C, ty ≠ .object C) (hal : al = true) (hnx : nx = n0 + cells) (harr : Cond.arrayClass (newarray.typeOf atype) ∈ aw_tbl) {n : Int32} {N' : Nat} (a0 : vp_A) (ha : ∀ cA : ClassId, vp_cell cA a0 = arrV cA N' (fun _ => defaultValue ty)) (hn : ¬ n < 0) (hN : n.toNatClampNeg = N') (hbytes : N' * componentBytes ty ≤ 536870912) (hcells : cells + 1 ≤ mc) (hslots : slots + N' ≤ ms) (hdg : decode cc pc = .ok (.newarray atype, 2))
    (kk : AW G E nL (nx + 1) (cells + 1) (slots + N') (aw_up w nx (.inl (cA, a0))) (pc + 2) lv (rf G nx :: rest)) : AW G E nL nx cells slots w pc lv (.int n :: rest) := by
  intro H locs ls hP hS hl
  have X0 := X
  obtain ⟨hx, hb, -, hown, hts, -, -, -, hK, -, hbs, hsz, hRf, hRl, hRc, hRs⟩ := X
  refine va_newa hx hb (hts _ harr) hty hK hP aw_D hS (fun q h => Nat.le_trans hbs h) ha hn hN hbytes (Nat.le_trans hcells hRc) (Nat.le_trans hslots hRs) hdg (fun q cB H1 hK1 hP1 hD1 hS1 => ?_)
  have e1 : va_RA E.2.2.1 cB ty := (hK1.2 (aw_tys G).length (cB, ty) (by simp)).2
  have e2 : va_RA E.2.2.1 cA ty := (hK.2 t0 _ ht).2
  have e3 : cB = cA := by
    have f1 : E.2.2.1.vm.findClass ("[" ++ ty.toString) = some cB := by cases ty <;> first | exact e1 | exact absurd rfl (hob _)
    have f2 : E.2.2.1.vm.findClass ("[" ++ ty.toString) = some cA := by cases ty <;> first | exact e2 | exact absurd rfl (hob _)
    exact Option.some.inj (f1.symm.trans f2)
  subst e3
  intro T hT St
  have hq := aw_q hP1 hD1 (by rw [← hT]; exact aw_size (nx := nx + 1) X0 hal (by omega) St)
  subst hq
  rw [aw_ws_push] at hP1
  exact kk H1 locs ls hP1 hS1 hl T hT St
theorem aw_newq (X : aw_X G own cc nL ret nm al n0 d mc ms E) {C : String} {index : Nat} (t0 : Nat) {cA : ClassId} (ht : (aw_tys G)[t0]? = some (cA, .object C)) (hal : al = true) (hnx : nx = n0 + cells) (hcl : Cond.classLink own index C ∈ aw_tbl) (hov : Cond.arrayOver (.object C) ∈ aw_nest) {n : Int32} {N' : Nat} (hn : ¬ n < 0) (hN : n.toNatClampNeg = N') (hbytes : N' * 4 ≤ 536870912) (hcells : cells + 1 ≤ mc) (hslots : slots + N' ≤ ms) (hdg : decode cc pc = .ok (.anewarray index, 3))
    (kk : AW G E nL (nx + 1) (cells + 1) (slots + N') (aw_up w nx (aRefs cA N' (fun _ => none))) (pc + 3) lv (rf G nx :: rest)) : AW G E nL nx cells slots w pc lv (.int n :: rest) := by
  intro H locs ls hP hS hl
  have X0 := X
  obtain ⟨hx, hb, -, hown, hts, -, -, -, hK, hKs, hbs, hsz, hRf, hRl, hRc, hRs⟩ := X
  refine va_newq hx hb hown (hts _ hcl) (hKs.1 _ hov) hK hP aw_D hS (fun q h => Nat.le_trans hbs h) hn hN hbytes (Nat.le_trans hcells hRc) (Nat.le_trans hslots hRs) hdg (fun q cB H1 hK1 hP1 hD1 hS1 => ?_)
  have e3 : cB = cA := by
    obtain ⟨_, _, _, _, _, f1⟩ := (hK1.2 (aw_tys G).length (cB, .object C) (by simp)).2
    obtain ⟨_, _, _, _, _, f2⟩ := (hK.2 t0 _ ht).2
    exact Option.some.inj (f1.symm.trans f2)
  subst e3
  intro T hT St
  have hq := aw_q hP1 hD1 (by rw [← hT]; exact aw_size (nx := nx + 1) X0 hal (by omega) St)
  subst hq
  rw [aw_ws_push] at hP1
  exact kk H1 locs ls hP1 hS1 hl T hT St
theorem aw_objInit (X : aw_X G own cc nL ret nm al n0 d mc ms E) {index a : Nat} (hlink : Cond.methodLink own index Lib.objectInit ∈ aw_tbl) (hinst : Cond.instanceMethod Lib.objectInit ∈ aw_tbl) (hcode : Cond.code Lib.objectInit ⟨#[0xb1]⟩ 1 none ∈ aw_tbl) (hdg : decode cc pc = .ok (.invokespecial index, 3)) (hframes : 1 ≤ d) (hlocals : (rest.map fun v => v.category).sum + 12 ≤ 40 * d) (kk : AW G E nL nx cells slots w (pc + 3) lv rest) : AW G E nL nx cells slots w pc lv (rf G a :: rest) := by
  intro H locs ls hP hS hl
  obtain ⟨hx, hb, hml, hown, hts, -, -, -, hK, -, hbs, hsz, hRf, hRl, hRc, hRs⟩ := X
  exact W.objInit hx hb hown (hts _ hlink) (hts _ hinst) (hts _ hcode) rfl (by rw [hml]; exact hl.1) rfl hdg (Nat.le_trans hframes hRf) (by show 2 * 0 + _ + 12 ≤ _; omega) (kk H locs ls hP hS hl)

theorem aw_fin {H : Heap} {locs : List Loc} {r : Option Value} (hP : va_P G.2.1 classes (aw_ws G.2.2.1 nx w) H) (hS : va_S (aw_own G) E.2.2.1.heap H locs) (hp : P r w nx) {t : State} (ht : t.heap = H) : aw_Qc G P E.2.2.2.2.1 E.2.2.1 (.returned r) t :=
  ⟨⟨r, w, nx, rfl, hp, by rw [ht]; exact hP⟩, hS.F ht⟩

theorem aw_iret (Y : aw_Y G P mc ms E) (X : aw_X G own cc nL ret nm al n0 d mc ms E) {v : Int32} (hr : ret = some .int) (hdg : decode cc pc = .ok (.ireturn, 1)) (hc : cells ≤ mc) (hs : slots ≤ ms) (hp : P (some (.int v)) w nx) : AW G E nL nx cells slots w pc lv [.int v] := by
  intro H locs ls hP hS hl
  rw [Y]
  refine W.widen hc hs ?_
  exact W.iret X.1 X.2.1 (X.2.2.2.2.2.1.trans hr) (fun t ht _ => aw_fin hP hS hp ht) hS.2.2 hdg X.2.2.2.2.2.2.1
theorem aw_lret (Y : aw_Y G P mc ms E) (X : aw_X G own cc nL ret nm al n0 d mc ms E) {v : Int64} (hr : ret = some .long) (hdg : decode cc pc = .ok (.lreturn, 1)) (hc : cells ≤ mc) (hs : slots ≤ ms) (hp : P (some (.long v)) w nx) : AW G E nL nx cells slots w pc lv [.long v] := by
  intro H locs ls hP hS hl
  rw [Y]
  refine W.widen hc hs ?_
  exact W.lret X.1 X.2.1 (X.2.2.2.2.2.1.trans hr) (fun t ht _ => aw_fin hP hS hp ht) hS.2.2 hdg X.2.2.2.2.2.2.1
theorem aw_vret (Y : aw_Y G P mc ms E) (X : aw_X G own cc nL ret nm al n0 d mc ms E)  (hr : ret = none) (hdg : decode cc pc = .ok (.return_, 1)) (hc : cells ≤ mc) (hs : slots ≤ ms) (hp : P none w nx) : AW G E nL nx cells slots w pc lv [] := by
  intro H locs ls hP hS hl
  rw [Y]
  refine W.widen hc hs ?_
  exact W.vret X.1 X.2.1 (X.2.2.2.2.2.1.trans hr) (fun t ht _ => aw_fin hP hS hp ht) hS.2.2 hdg X.2.2.2.2.2.2.1
theorem aw_zret (Y : aw_Y G P mc ms E) (X : aw_X G own cc nL ret nm al n0 d mc ms E) {v : Int32} {ty : FieldType} (hr : ret = some ty) (hn : narrow ty (.int v) = .int v) (hdg : decode cc pc = .ok (.ireturn, 1)) (hc : cells ≤ mc) (hs : slots ≤ ms) (hp : P (some (.int v)) w nx) : AW G E nL nx cells slots w pc lv [.int v] := by
  intro H locs ls hP hS hl
  rw [Y]
  refine W.widen hc hs ?_
  exact W.zret X.1 X.2.1 (X.2.2.2.2.2.1.trans hr) hn (fun t ht _ => aw_fin hP hS hp ht) hS.2.2 hdg X.2.2.2.2.2.2.1
theorem aw_aret (Y : aw_Y G P mc ms E) (X : aw_X G own cc nL ret nm al n0 d mc ms E) {v : Value} {n : String} (hr : ret = some (.object n)) (hv : v = .null ∨ ∃ a, v = .ref a) (hdg : decode cc pc = .ok (.areturn, 1)) (hc : cells ≤ mc) (hs : slots ≤ ms) (hp : P (some v) w nx) : AW G E nL nx cells slots w pc lv [v] := by
  intro H locs ls hP hS hl
  rw [Y]
  refine W.widen hc hs ?_
  exact W.aret X.1 X.2.1 (X.2.2.2.2.2.1.trans hr) (Or.inl ⟨n, rfl⟩) hv (fun t ht _ => aw_fin hP hS hp ht) hS.2.2 hdg X.2.2.2.2.2.2.1

theorem aw_core {mc' ms' : Nat} {post : Option Value → (Nat → va_E) → Nat → Prop} {a : Array Value} {st0 : List Value} {H : Heap} {locs : List Loc} {ls : Array Slot} (hr : va_Run E.1 G.1 E.2.1 E.2.2.2.2.2.2.2.2.1 E.2.2.1 E.2.2.2.1 E.2.2.2.2.1 E.2.2.2.2.2.1 E.2.2.2.2.2.2.1 E.2.2.2.2.2.2.2.1 H locs cells slots mc' ms' (F0 E.2.2.2.1 pc ls st0) rest (aw_Qc G post a) (aw_own G)) (hS : va_S (aw_own G) E.2.2.1.heap H locs) (hl : lv_has ls nL lv) (kk : ∀ (r : Option Value) (w' : Nat → va_E) (nx' : Nat), post r w' nx' → AW G E nL nx' (cells + mc') (slots + ms') w' (pc + 3) lv (r.toList ++ rest)) : W E.1 G.1 E.2.1 E.2.2.2.2.2.2.2.2.1 E.2.2.1 E.2.2.2.1 E.2.2.2.2.1 E.2.2.2.2.2.1 E.2.2.2.2.2.2.1 E.2.2.2.2.2.2.2.1 H locs cells slots E.2.2.2.2.2.2.2.2.2 (F0 E.2.2.2.1 pc ls st0) := by
  intro T hT X
  obtain ⟨v, st₀, t, T', L, h0, X', hL, e1, e2, ⟨⟨r, w', nx', hv, hp, hP'⟩, hz, hk⟩, st⟩ := hr T hT X
  cases hv
  rw [h0] at hz hk
  obtain ⟨t2, a1, b1⟩ := kk v w' nx' hp T'.heap (locs ++ L) ls (by rw [e1]; exact hP')
    ⟨Nat.le_trans hS.1 (by rw [e1]; exact hz), fun q h1 h2 => by rw [e1, hk q (Nat.lt_of_lt_of_le h1 hS.1) h2]; exact hS.2.1 q h1 h2, fun q hq => by
      rcases List.mem_append.mp hq with h | h
      · exact hS.2.2 q h
      · exact hL q h⟩ hl T' rfl X'
  exact ⟨t2, st t2 a1, b1⟩
theorem aw_pre (X : aw_X G own cc nL ret nm al n0 d mc ms E) {al' : Bool} (has : al' = true → al = true ∧ nx = n0 + cells) {H : Heap} {locs : List Loc} {T : State} (hT : T.heap = H) (St : Stand E.1 G.1 E.2.1 E.2.2.2.2.2.2.2.2.1 E.2.2.1 E.2.2.2.1 E.2.2.2.2.1 E.2.2.2.2.2.1 E.2.2.2.2.2.2.1 E.2.2.2.2.2.2.2.1 T locs cells slots) (hP : va_P G.2.1 classes (aw_ws G.2.2.1 nx w) H) (hS : va_S (aw_own G) E.2.2.1.heap H locs) (As : List Value) : ∀ U : State, U.heap = H → E.2.2.1.WarmedH U.vm → aw_Pc G al' As nx w As.toArray U := by
  intro U hU hW
  have hbs := X.2.2.2.2.2.2.2.2.2.2.1
  refine ⟨rfl, fun h => ?_, by rw [hU]; exact hP, va_K.moved hW.alike X.2.2.2.2.2.2.2.2.1, aw_Kk hW (by rw [hU]; exact hS.1) (fun q h1 h2 => by rw [hU]; exact hS.2.1 q h1 h2) X.2.2.2.2.2.2.2.2.2.1, by rw [hU]; exact Nat.le_trans hbs hS.1⟩
  have h1 := aw_size X (has h).1 (has h).2 St
  have h2 := aw_lo hP (Nat.le_trans hbs hS.1)
  rw [hT] at h1
  rw [hU]
  omega

theorem aw_callV (X : aw_X G own cc nL ret nm al n0 d mc ms E) {y : MethodName} {bytes : ByteArray} {maxL mc' ms' index d' : Nat} {rt : Option FieldType} {As : List Value} {post : Option Value → (Nat → va_E) → Nat → Prop} {al' : Bool} {T0 : u_T} {N0 ci : Nat} {fs : List Value} (a : Nat) (hM : AC G y bytes maxL rt d' al' (rf G a :: As) nx w mc' ms' post) (hq : aw_q1 y bytes maxL rt As.length) (hlink : Cond.methodLink own index y ∈ aw_tbl) (hin : Cond.instanceMethod y ∈ aw_tbl) (hsel : Cond.selects y.cls y y ∈ aw_tbl) (ha : a < nx) (hwa : w a = aObj ci fs) (hc : classes[ci]? = some (y.cls, T0, N0)) (hdg : decode cc pc = .ok (.invokevirtual index, 3)) (hd : d' + 1 ≤ d) (hst : (rest.map fun v => v.category).sum ≤ 8) (hf : cells + mc' ≤ mc ∧ slots + ms' ≤ ms) (has : al' = true → al = true ∧ nx = n0 + cells) (kk : ∀ (r : Option Value) (w' : Nat → va_E) (nx' : Nat), post r w' nx' → AW G E nL nx' (cells + mc') (slots + ms') w' (pc + 3) lv (r.toList ++ rest)) : AW G E nL nx cells slots w pc lv (As.reverse ++ rf G a :: rest) := by
  obtain ⟨post0, hM, hpw⟩ := hM
  intro H locs ls hP hS hl T hT St
  have hpre := aw_pre X has hT St hP hS (rf G a :: As)
  have hG := aw_gd hq.1
  have hyd := hq.2.2.1
  have hini := hq.2.1
  have X0 := X
  obtain ⟨hx, hb, hmx, hown, hts, -, -, -, hK, hKs, hbs, hsz, hRf, hRl, hRc, hRs⟩ := X
  refine (aw_core (post := post0) (a := (rf G a :: As).toArray) (st0 := (As.reverse ++ rf G a :: rest)) (ls := ls) ?_ hS hl (fun r w' nx' hp => kk r w' nx' (hpw _ _ _ hp))) T hT St
  exact va_runV (C := y.cls) (As := As) (rest := rest) ⟨hx, hb, hmx, hown, hts⟩ hM ⟨(callB_of As.length hts hG rfl rfl rfl (hts _ hini) (hts _ hlink) hyd ⟨by show d' + 1 ≤ _; omega, by have hml := hq.2.2.2; show 8 + (maxL + 11) + 40 * d' ≤ _; omega⟩), hts _ hin, hts _ hsel⟩ ⟨aw_blind, (va_recv hK hP hc (by rw [aw_ws_get ha, hwa]; rfl)), hpre⟩ rfl rfl hl.1 rfl (lv_room hst) hdg ⟨Nat.le_trans hf.1 hRc, Nat.le_trans hf.2 hRs⟩
theorem aw_callS (X : aw_X G own cc nL ret nm al n0 d mc ms E) {y : MethodName} {bytes : ByteArray} {maxL mc' ms' index d' : Nat} {rt : Option FieldType} {As : List Value} {post : Option Value → (Nat → va_E) → Nat → Prop} {al' : Bool}  (hM : AC G y bytes maxL rt d' al' As nx w mc' ms' post) (hq : aw_q1 y bytes maxL rt As.length) (hlink : Cond.methodLink own index y ∈ aw_tbl) (hsta : Cond.static y ∈ aw_tbl) (hdg : decode cc pc = .ok (.invokestatic index, 3)) (hd : d' + 1 ≤ d) (hst : (rest.map fun v => v.category).sum ≤ 8) (hf : cells + mc' ≤ mc ∧ slots + ms' ≤ ms) (has : al' = true → al = true ∧ nx = n0 + cells) (kk : ∀ (r : Option Value) (w' : Nat → va_E) (nx' : Nat), post r w' nx' → AW G E nL nx' (cells + mc') (slots + ms') w' (pc + 3) lv (r.toList ++ rest)) : AW G E nL nx cells slots w pc lv (As.reverse ++ rest) := by
  obtain ⟨post0, hM, hpw⟩ := hM
  intro H locs ls hP hS hl T hT St
  have hpre := aw_pre X has hT St hP hS As
  have hG := aw_gd hq.1
  have hyd := hq.2.2.1
  have hini := hq.2.1
  have X0 := X
  obtain ⟨hx, hb, hmx, hown, hts, -, -, -, hK, hKs, hbs, hsz, hRf, hRl, hRc, hRs⟩ := X
  refine (aw_core (post := post0) (a := As.toArray) (st0 := (As.reverse ++ rest)) (ls := ls) ?_ hS hl (fun r w' nx' hp => kk r w' nx' (hpw _ _ _ hp))) T hT St
  exact va_runS (As := As) (rest := rest) ⟨hx, hb, hmx, hown, hts⟩ hM ⟨(callB_of As.length hts hG rfl rfl rfl (hts _ hini) (hts _ hlink) hyd ⟨by show d' + 1 ≤ _; omega, by have hml := hq.2.2.2; show 8 + (maxL + 11) + 40 * d' ≤ _; omega⟩), hts _ hsta⟩ ⟨aw_blind, hpre⟩ rfl rfl hl.1 rfl (lv_room hst) hdg ⟨Nat.le_trans hf.1 hRc, Nat.le_trans hf.2 hRs⟩
theorem aw_callVN (X : aw_X G own cc nL ret nm al n0 d mc ms E) {y : MethodName} {bytes : ByteArray} {maxL mc' ms' index d' : Nat} {rt : Option FieldType} {As : List Value} {post : Option Value → (Nat → va_E) → Nat → Prop} {al' : Bool} {T0 : u_T} {N0 ci : Nat} {fs : List Value} (a : Nat) {host : String} (hM : AC G y bytes maxL rt d' al' (rf G a :: As) nx w mc' ms' post) (hq : aw_q1 y bytes maxL rt As.length) (hlink : Cond.methodLinkNest own index y host ∈ aw_nest) (hin : Cond.instanceMethod y ∈ aw_tbl) (hsel : Cond.selects y.cls y y ∈ aw_tbl) (ha : a < nx) (hwa : w a = aObj ci fs) (hc : classes[ci]? = some (y.cls, T0, N0)) (hdg : decode cc pc = .ok (.invokevirtual index, 3)) (hd : d' + 1 ≤ d) (hst : (rest.map fun v => v.category).sum ≤ 8) (hf : cells + mc' ≤ mc ∧ slots + ms' ≤ ms) (has : al' = true → al = true ∧ nx = n0 + cells) (kk : ∀ (r : Option Value) (w' : Nat → va_E) (nx' : Nat), post r w' nx' → AW G E nL nx' (cells + mc') (slots + ms') w' (pc + 3) lv (r.toList ++ rest)) : AW G E nL nx cells slots w pc lv (As.reverse ++ rf G a :: rest) := by
  obtain ⟨post0, hM, hpw⟩ := hM
  intro H locs ls hP hS hl T hT St
  have hpre := aw_pre X has hT St hP hS (rf G a :: As)
  have hG := aw_gd hq.1
  have hyd := hq.2.2.1
  have hini := hq.2.1
  have X0 := X
  obtain ⟨hx, hb, hmx, hown, hts, -, -, -, hK, hKs, hbs, hsz, hRf, hRl, hRc, hRs⟩ := X
  refine (aw_core (post := post0) (a := (rf G a :: As).toArray) (st0 := (As.reverse ++ rf G a :: rest)) (ls := ls) ?_ hS hl (fun r w' nx' hp => kk r w' nx' (hpw _ _ _ hp))) T hT St
  exact va_runVN (C := y.cls) (As := As) (rest := rest) ⟨hx, hb, hmx, hown, hts⟩ hM ⟨(va_cnB As.length hts hG rfl rfl rfl (hKs.1 _ hlink) (hts _ hini) hyd ⟨by show d' + 1 ≤ _; omega, by have hml := hq.2.2.2; show 8 + (maxL + 11) + 40 * d' ≤ _; omega⟩), hts _ hin, hts _ hsel⟩ ⟨aw_blind, (va_recv hK hP hc (by rw [aw_ws_get ha, hwa]; rfl)), hpre⟩ rfl rfl hl.1 rfl (lv_room hst) hdg ⟨Nat.le_trans hf.1 hRc, Nat.le_trans hf.2 hRs⟩
theorem aw_callSN (X : aw_X G own cc nL ret nm al n0 d mc ms E) {y : MethodName} {bytes : ByteArray} {maxL mc' ms' index d' : Nat} {rt : Option FieldType} {As : List Value} {post : Option Value → (Nat → va_E) → Nat → Prop} {al' : Bool} {host : String} (hM : AC G y bytes maxL rt d' al' As nx w mc' ms' post) (hq : aw_q1 y bytes maxL rt As.length) (hlink : Cond.methodLinkNest own index y host ∈ aw_nest) (hsta : Cond.static y ∈ aw_tbl) (hdg : decode cc pc = .ok (.invokestatic index, 3)) (hd : d' + 1 ≤ d) (hst : (rest.map fun v => v.category).sum ≤ 8) (hf : cells + mc' ≤ mc ∧ slots + ms' ≤ ms) (has : al' = true → al = true ∧ nx = n0 + cells) (kk : ∀ (r : Option Value) (w' : Nat → va_E) (nx' : Nat), post r w' nx' → AW G E nL nx' (cells + mc') (slots + ms') w' (pc + 3) lv (r.toList ++ rest)) : AW G E nL nx cells slots w pc lv (As.reverse ++ rest) := by
  obtain ⟨post0, hM, hpw⟩ := hM
  intro H locs ls hP hS hl T hT St
  have hpre := aw_pre X has hT St hP hS As
  have hG := aw_gd hq.1
  have hyd := hq.2.2.1
  have hini := hq.2.1
  have X0 := X
  obtain ⟨hx, hb, hmx, hown, hts, -, -, -, hK, hKs, hbs, hsz, hRf, hRl, hRc, hRs⟩ := X
  refine (aw_core (post := post0) (a := As.toArray) (st0 := (As.reverse ++ rest)) (ls := ls) ?_ hS hl (fun r w' nx' hp => kk r w' nx' (hpw _ _ _ hp))) T hT St
  exact va_runSN (As := As) (rest := rest) ⟨hx, hb, hmx, hown, hts⟩ hM ⟨(va_cnB As.length hts hG rfl rfl rfl (hKs.1 _ hlink) (hts _ hini) hyd ⟨by show d' + 1 ≤ _; omega, by have hml := hq.2.2.2; show 8 + (maxL + 11) + 40 * d' ≤ _; omega⟩), hts _ hsta, trivial⟩ ⟨aw_blind, hpre⟩ rfl rfl hl.1 rfl (lv_room hst) hdg ⟨Nat.le_trans hf.1 hRc, Nat.le_trans hf.2 hRs⟩
theorem aw_callI (X : aw_X G own cc nL ret nm al n0 d mc ms E) {y : MethodName} {bytes : ByteArray} {maxL mc' ms' index d' : Nat} {rt : Option FieldType} {As : List Value} {post : Option Value → (Nat → va_E) → Nat → Prop} {al' : Bool} (a : Nat) (hM : AC G y bytes maxL rt d' al' (rf G a :: As) nx w mc' ms' post) (hq : aw_q1 y bytes maxL rt As.length) (hlink : Cond.methodLink own index y ∈ aw_tbl) (hin : Cond.instanceMethod y ∈ aw_tbl) (hy1 : y.name = "<init>") (hrt : rt = none) (hdg : decode cc pc = .ok (.invokespecial index, 3)) (hd : d' + 1 ≤ d) (hst : (rest.map fun v => v.category).sum ≤ 8) (hf : cells + mc' ≤ mc ∧ slots + ms' ≤ ms) (has : al' = true → al = true ∧ nx = n0 + cells) (kk : ∀ (r : Option Value) (w' : Nat → va_E) (nx' : Nat), post r w' nx' → AW G E nL nx' (cells + mc') (slots + ms') w' (pc + 3) lv (r.toList ++ rest)) : AW G E nL nx cells slots w pc lv (As.reverse ++ rf G a :: rest) := by
  obtain ⟨post0, hM, hpw⟩ := hM
  intro H locs ls hP hS hl T hT St
  have hpre := aw_pre X has hT St hP hS (rf G a :: As)
  have hG := aw_gd hq.1
  have hyd := hq.2.2.1
  have hini := hq.2.1
  have X0 := X
  obtain ⟨hx, hb, hmx, hown, hts, -, -, -, hK, hKs, hbs, hsz, hRf, hRl, hRc, hRs⟩ := X
  refine (aw_core (post := post0) (a := (rf G a :: As).toArray) (st0 := (As.reverse ++ rf G a :: rest)) (ls := ls) ?_ hS hl (fun r w' nx' hp => kk r w' nx' (hpw _ _ _ hp))) T hT St
  exact by
    subst hrt
    exact va_runI (As := As) (rest := rest) ⟨hx, hb, hmx, hown, hts⟩ hM ⟨(callB_of As.length hts hG rfl rfl rfl (hts _ hini) (hts _ hlink) hyd ⟨by show d' + 1 ≤ _; omega, by have hml := hq.2.2.2; show 8 + (maxL + 11) + 40 * d' ≤ _; omega⟩), hy1, hts _ hin⟩ ⟨aw_blind, hpre⟩ rfl rfl hl.1 rfl (lv_room hst) hdg ⟨Nat.le_trans hf.1 hRc, Nat.le_trans hf.2 hRs⟩
theorem aw_callIN (X : aw_X G own cc nL ret nm al n0 d mc ms E) {y : MethodName} {bytes : ByteArray} {maxL mc' ms' index d' : Nat} {rt : Option FieldType} {As : List Value} {post : Option Value → (Nat → va_E) → Nat → Prop} {al' : Bool} (a : Nat) {host : String} (hM : AC G y bytes maxL rt d' al' (rf G a :: As) nx w mc' ms' post) (hq : aw_q1 y bytes maxL rt As.length) (hlink : Cond.methodLinkNest own index y host ∈ aw_nest) (hin : Cond.instanceMethod y ∈ aw_tbl) (hy1 : y.name = "<init>") (hrt : rt = none) (hdg : decode cc pc = .ok (.invokespecial index, 3)) (hd : d' + 1 ≤ d) (hst : (rest.map fun v => v.category).sum ≤ 8) (hf : cells + mc' ≤ mc ∧ slots + ms' ≤ ms) (has : al' = true → al = true ∧ nx = n0 + cells) (kk : ∀ (r : Option Value) (w' : Nat → va_E) (nx' : Nat), post r w' nx' → AW G E nL nx' (cells + mc') (slots + ms') w' (pc + 3) lv (r.toList ++ rest)) : AW G E nL nx cells slots w pc lv (As.reverse ++ rf G a :: rest) := by
  obtain ⟨post0, hM, hpw⟩ := hM
  intro H locs ls hP hS hl T hT St
  have hpre := aw_pre X has hT St hP hS (rf G a :: As)
  have hG := aw_gd hq.1
  have hyd := hq.2.2.1
  have hini := hq.2.1
  have X0 := X
  obtain ⟨hx, hb, hmx, hown, hts, -, -, -, hK, hKs, hbs, hsz, hRf, hRl, hRc, hRs⟩ := X
  refine (aw_core (post := post0) (a := (rf G a :: As).toArray) (st0 := (As.reverse ++ rf G a :: rest)) (ls := ls) ?_ hS hl (fun r w' nx' hp => kk r w' nx' (hpw _ _ _ hp))) T hT St
  exact by
    subst hrt
    exact va_runIN (As := As) (rest := rest) ⟨hx, hb, hmx, hown, hts⟩ hM ⟨(va_cnB As.length hts hG rfl rfl rfl (hKs.1 _ hlink) (hts _ hini) hyd ⟨by show d' + 1 ≤ _; omega, by have hml := hq.2.2.2; show 8 + (maxL + 11) + 40 * d' ≤ _; omega⟩), hy1, hts _ hin⟩ ⟨aw_blind, hpre⟩ rfl rfl hl.1 rfl (lv_room hst) hdg ⟨Nat.le_trans hf.1 hRc, Nat.le_trans hf.2 hRs⟩
end AWS
end
section
/-! cells, and rows over naturals -/
def aw_un (g : Nat → Nat) (k x : Nat) : Nat → Nat := fun j => if j = k then x else g j
theorem aw_un_eq (g : Nat → Nat) (k x : Nat) : aw_un g k x k = x := if_pos rfl
theorem aw_un_ne (g : Nat → Nat) {k j : Nat} (x : Nat) (h : j ≠ k) : aw_un g k x j = g j := if_neg h
theorem aw_un_upd (g : Nat → Nat) (k x : Nat) : upd (fun j => nI (g j)) k (nI x) = fun j => nI (aw_un g k x j) := by
  funext j
  unfold upd aw_un
  by_cases h : j = k
  · rw [if_pos h, if_pos h]
  · rw [if_neg h, if_neg h]
def aw_cpn (f g : Nat → Nat) (sp dp n : Nat) : Nat → Nat := fun j => if dp ≤ j ∧ j < dp + n then f (sp + (j - dp)) else g j

section AWN
variable {G : aw_G} {E : aw_E} {P : Option Value → (Nat → va_E) → Nat → Prop} {nL d mc ms nx n0 cells slots pc : Nat} {al : Bool} {w : Nat → va_E} {lv : List (Nat × Value)} {rest : List Value} {own nm : String} {cc : ByteArray} {ret : Option FieldType}
theorem aw_iconstN (X : aw_X G own cc nL ret nm al n0 d mc ms E) {n : Int} (k : Nat) (hdg : decode cc pc = .ok (.iconst n, 1)) (hv : Int32.ofInt n = nI k) (kk : AW G E nL nx cells slots w (pc + 1) lv (.int (nI k) :: rest)) : AW G E nL nx cells slots w pc lv rest := aw_iconst X hdg hv kk
theorem aw_bipushN (X : aw_X G own cc nL ret nm al n0 d mc ms E) {n : Int} (k : Nat) (hdg : decode cc pc = .ok (.bipush n, 2)) (hv : (Int8.ofInt n).toInt32 = nI k) (kk : AW G E nL nx cells slots w (pc + 2) lv (.int (nI k) :: rest)) : AW G E nL nx cells slots w pc lv rest := aw_bipush X hdg hv kk
theorem aw_sipushN (X : aw_X G own cc nL ret nm al n0 d mc ms E) {n : Int} (k : Nat) (hdg : decode cc pc = .ok (.sipush n, 3)) (hv : (Int16.ofInt n).toInt32 = nI k) (kk : AW G E nL nx cells slots w (pc + 3) lv (.int (nI k) :: rest)) : AW G E nL nx cells slots w pc lv rest := aw_sipush X hdg hv kk
theorem aw_iaddN (X : aw_X G own cc nL ret nm al n0 d mc ms E) {x y : Nat} (hdg : decode cc pc = .ok (.iadd, 1)) (k : AW G E nL nx cells slots w (pc + 1) lv (.int (nI (x + y)) :: rest)) : AW G E nL nx cells slots w pc lv (.int (nI y) :: .int (nI x) :: rest) := aw_iadd X hdg (by rw [nI_add]; exact k)
theorem aw_isubN (X : aw_X G own cc nL ret nm al n0 d mc ms E) {x y : Nat} (hdg : decode cc pc = .ok (.isub, 1)) (h : y ≤ x) (k : AW G E nL nx cells slots w (pc + 1) lv (.int (nI (x - y)) :: rest)) : AW G E nL nx cells slots w pc lv (.int (nI y) :: .int (nI x) :: rest) := aw_isub X hdg (by rw [pk_sub h]; exact k)
theorem aw_imulN (X : aw_X G own cc nL ret nm al n0 d mc ms E) {x y : Nat} (hdg : decode cc pc = .ok (.imul, 1)) (k : AW G E nL nx cells slots w (pc + 1) lv (.int (nI (x * y)) :: rest)) : AW G E nL nx cells slots w pc lv (.int (nI y) :: .int (nI x) :: rest) := aw_imul X hdg (by rw [pk_mul]; exact k)
theorem aw_iincN (X : aw_X G own cc nL ret nm al n0 d mc ms E) {i x : Nat} {n : Int} (k : Nat) {lv' : List (Nat × Value)} (hdg : decode cc pc = .ok (.iinc i n, 3)) (hx : aw_lg lv i = some (.int (nI x))) (hv : Int32.ofInt n = nI k) (hn : i < nL) (h : (i, Value.int (nI (x + k))) :: lv.filter (fun q => !(q.1 == i) && !(q.1 + 1 == i && q.2.category == 2)) = lv') (kk : AW G E nL nx cells slots w (pc + 3) lv' rest) : AW G E nL nx cells slots w pc lv rest := aw_iinc X hdg hx (by rw [hv, nI_add]) hn h kk
theorem aw_iincM (X : aw_X G own cc nL ret nm al n0 d mc ms E) {i x : Nat} {n : Int} (k : Nat) {lv' : List (Nat × Value)} (hdg : decode cc pc = .ok (.iinc i n, 3)) (hx : aw_lg lv i = some (.int (nI x))) (hv : Int32.ofInt n = -nI k) (hk : k ≤ x) (hn : i < nL) (h : (i, Value.int (nI (x - k))) :: lv.filter (fun q => !(q.1 == i) && !(q.1 + 1 == i && q.2.category == 2)) = lv') (kk : AW G E nL nx cells slots w (pc + 3) lv' rest) : AW G E nL nx cells slots w pc lv rest := aw_iinc X hdg hx (by rw [hv, ← pk_sub hk, Int32.sub_eq_add_neg]) hn h kk
theorem aw_i2cN (X : aw_X G own cc nL ret nm al n0 d mc ms E) {x : Nat} (hdg : decode cc pc = .ok (.i2c, 1)) (hx : x < 65536) (k : AW G E nL nx cells slots w (pc + 1) lv (.int (nI x) :: rest)) : AW G E nL nx cells slots w pc lv (.int (nI x) :: rest) := aw_i2c X hdg (by rw [pk_char, pk_tn (by omega), Nat.mod_eq_of_lt hx]; exact k)
theorem aw_i2lN (X : aw_X G own cc nL ret nm al n0 d mc ms E) {x : Nat} (hdg : decode cc pc = .ok (.i2l, 1)) (hx : x < 2 ^ 31) (k : AW G E nL nx cells slots w (pc + 1) lv (.long (lN x) :: rest)) : AW G E nL nx cells slots w pc lv (.int (nI x) :: rest) := aw_i2l X hdg (by rw [nI_l hx]; exact k)
theorem aw_nar {q : Nat} (hq : q < 65536) : vp_nar .char (nI q) = nI q := by
  have h := (pk_charN hq).1
  unfold vp_nar
  rw [h]
theorem aw_narB {q : Nat} (hq : q < 2) : vp_nar .boolean (nI q) = nI q := by
  rcases (show q = 0 ∨ q = 1 by omega) with rfl | rfl <;> decide +kernel

theorem aw_icmp_eqN (X : aw_X G own cc nL ret nm al n0 d mc ms E) {x y : Nat} {off : Int} {tgt : Nat} (hdg : decode cc pc = .ok (.if_icmp .eq off, 3)) (ht : (pc : Int) + off = (tgt : Int)) (hx : x < 2 ^ 31) (hy : y < 2 ^ 31) (kt : x = y → AW G E nL nx cells slots w tgt lv rest) (kf : x ≠ y → AW G E nL nx cells slots w (pc + 3) lv rest) : AW G E nL nx cells slots w pc lv (.int (nI y) :: .int (nI x) :: rest) := aw_icmp_eq X hdg ht (fun h => kt ((nI_eq hx hy).mp h)) (fun h => kf ((fun q => h ((nI_eq hx hy).mpr q))))
theorem aw_if_eqN (X : aw_X G own cc nL ret nm al n0 d mc ms E) {x : Nat} {off : Int} {tgt : Nat} (hdg : decode cc pc = .ok (.ifCond .eq off, 3)) (ht : (pc : Int) + off = (tgt : Int)) (hx : x < 2 ^ 31) (kt : x = 0 → AW G E nL nx cells slots w tgt lv rest) (kf : x ≠ 0 → AW G E nL nx cells slots w (pc + 3) lv rest) : AW G E nL nx cells slots w pc lv (.int (nI x) :: rest) := aw_if_eq X hdg ht (fun h => kt ((nI_eq (b := 0) hx (by decide)).mp h)) (fun h => kf ((fun q => h ((nI_eq (b := 0) hx (by decide)).mpr q))))
theorem aw_icmp_neN (X : aw_X G own cc nL ret nm al n0 d mc ms E) {x y : Nat} {off : Int} {tgt : Nat} (hdg : decode cc pc = .ok (.if_icmp .ne off, 3)) (ht : (pc : Int) + off = (tgt : Int)) (hx : x < 2 ^ 31) (hy : y < 2 ^ 31) (kt : x ≠ y → AW G E nL nx cells slots w tgt lv rest) (kf : x = y → AW G E nL nx cells slots w (pc + 3) lv rest) : AW G E nL nx cells slots w pc lv (.int (nI y) :: .int (nI x) :: rest) := aw_icmp_ne X hdg ht (fun h => kt ((fun q => h ((nI_eq hx hy).mpr q)))) (fun h => kf ((nI_eq hx hy).mp h))
theorem aw_if_neN (X : aw_X G own cc nL ret nm al n0 d mc ms E) {x : Nat} {off : Int} {tgt : Nat} (hdg : decode cc pc = .ok (.ifCond .ne off, 3)) (ht : (pc : Int) + off = (tgt : Int)) (hx : x < 2 ^ 31) (kt : x ≠ 0 → AW G E nL nx cells slots w tgt lv rest) (kf : x = 0 → AW G E nL nx cells slots w (pc + 3) lv rest) : AW G E nL nx cells slots w pc lv (.int (nI x) :: rest) := aw_if_ne X hdg ht (fun h => kt ((fun q => h ((nI_eq (b := 0) hx (by decide)).mpr q)))) (fun h => kf ((nI_eq (b := 0) hx (by decide)).mp h))
theorem aw_icmp_ltN (X : aw_X G own cc nL ret nm al n0 d mc ms E) {x y : Nat} {off : Int} {tgt : Nat} (hdg : decode cc pc = .ok (.if_icmp .lt off, 3)) (ht : (pc : Int) + off = (tgt : Int)) (hx : x < 2 ^ 31) (hy : y < 2 ^ 31) (kt : x < y → AW G E nL nx cells slots w tgt lv rest) (kf : y ≤ x → AW G E nL nx cells slots w (pc + 3) lv rest) : AW G E nL nx cells slots w pc lv (.int (nI y) :: .int (nI x) :: rest) := aw_icmp_lt X hdg ht (fun h => kt ((nI_ltI hx hy).mp h)) (fun h => kf ((Nat.not_lt.mp (fun q => h ((nI_ltI hx hy).mpr q)))))
theorem aw_icmp_geN (X : aw_X G own cc nL ret nm al n0 d mc ms E) {x y : Nat} {off : Int} {tgt : Nat} (hdg : decode cc pc = .ok (.if_icmp .ge off, 3)) (ht : (pc : Int) + off = (tgt : Int)) (hx : x < 2 ^ 31) (hy : y < 2 ^ 31) (kt : y ≤ x → AW G E nL nx cells slots w tgt lv rest) (kf : x < y → AW G E nL nx cells slots w (pc + 3) lv rest) : AW G E nL nx cells slots w pc lv (.int (nI y) :: .int (nI x) :: rest) := aw_icmp_ge X hdg ht (fun h => kt ((nI_leI hy hx).mp h)) (fun h => kf ((Nat.not_le.mp (fun q => h ((nI_leI hy hx).mpr q)))))
theorem aw_icmp_gtN (X : aw_X G own cc nL ret nm al n0 d mc ms E) {x y : Nat} {off : Int} {tgt : Nat} (hdg : decode cc pc = .ok (.if_icmp .gt off, 3)) (ht : (pc : Int) + off = (tgt : Int)) (hx : x < 2 ^ 31) (hy : y < 2 ^ 31) (kt : y < x → AW G E nL nx cells slots w tgt lv rest) (kf : x ≤ y → AW G E nL nx cells slots w (pc + 3) lv rest) : AW G E nL nx cells slots w pc lv (.int (nI y) :: .int (nI x) :: rest) := aw_icmp_gt X hdg ht (fun h => kt ((nI_ltI hy hx).mp h)) (fun h => kf ((Nat.not_lt.mp (fun q => h ((nI_ltI hy hx).mpr q)))))
theorem aw_if_gtN (X : aw_X G own cc nL ret nm al n0 d mc ms E) {x : Nat} {off : Int} {tgt : Nat} (hdg : decode cc pc = .ok (.ifCond .gt off, 3)) (ht : (pc : Int) + off = (tgt : Int)) (hx : x < 2 ^ 31) (kt : 0 < x → AW G E nL nx cells slots w tgt lv rest) (kf : x ≤ 0 → AW G E nL nx cells slots w (pc + 3) lv rest) : AW G E nL nx cells slots w pc lv (.int (nI x) :: rest) := aw_if_gt X hdg ht (fun h => kt ((nI_ltI (a := 0) (by decide) hx).mp h)) (fun h => kf ((Nat.not_lt.mp (fun q => h ((nI_ltI (a := 0) (by decide) hx).mpr q)))))
theorem aw_icmp_leN (X : aw_X G own cc nL ret nm al n0 d mc ms E) {x y : Nat} {off : Int} {tgt : Nat} (hdg : decode cc pc = .ok (.if_icmp .le off, 3)) (ht : (pc : Int) + off = (tgt : Int)) (hx : x < 2 ^ 31) (hy : y < 2 ^ 31) (kt : x ≤ y → AW G E nL nx cells slots w tgt lv rest) (kf : y < x → AW G E nL nx cells slots w (pc + 3) lv rest) : AW G E nL nx cells slots w pc lv (.int (nI y) :: .int (nI x) :: rest) := aw_icmp_le X hdg ht (fun h => kt ((nI_leI hx hy).mp h)) (fun h => kf ((Nat.not_le.mp (fun q => h ((nI_leI hx hy).mpr q)))))
theorem aw_if_leN (X : aw_X G own cc nL ret nm al n0 d mc ms E) {x : Nat} {off : Int} {tgt : Nat} (hdg : decode cc pc = .ok (.ifCond .le off, 3)) (ht : (pc : Int) + off = (tgt : Int)) (hx : x < 2 ^ 31) (kt : x ≤ 0 → AW G E nL nx cells slots w tgt lv rest) (kf : 0 < x → AW G E nL nx cells slots w (pc + 3) lv rest) : AW G E nL nx cells slots w pc lv (.int (nI x) :: rest) := aw_if_le X hdg ht (fun h => kt ((nI_leI (b := 0) hx (by decide)).mp h)) (fun h => kf ((Nat.not_le.mp (fun q => h ((nI_leI (b := 0) hx (by decide)).mpr q)))))
theorem aw_if_ltN (X : aw_X G own cc nL ret nm al n0 d mc ms E) {x : Nat} {off : Int} {tgt : Nat} (hdg : decode cc pc = .ok (.ifCond .lt off, 3)) (ht : (pc : Int) + off = (tgt : Int)) (hx : x < 2 ^ 31) (kf : AW G E nL nx cells slots w (pc + 3) lv rest) : AW G E nL nx cells slots w pc lv (.int (nI x) :: rest) := aw_if_lt X hdg ht (fun h => absurd h (nI_pos hx)) (fun _ => kf)
theorem aw_if_geN (X : aw_X G own cc nL ret nm al n0 d mc ms E) {x : Nat} {off : Int} {tgt : Nat} (hdg : decode cc pc = .ok (.ifCond .ge off, 3)) (ht : (pc : Int) + off = (tgt : Int)) (hx : x < 2 ^ 31) (kt : AW G E nL nx cells slots w tgt lv rest) : AW G E nL nx cells slots w pc lv (.int (nI x) :: rest) := aw_if_ge X hdg ht (fun _ => kt) (fun h => absurd (nI_pos' hx) h)

theorem aw_caldN (X : aw_X G own cc nL ret nm al n0 d mc ms E) (a t0 : Nat) {cA : ClassId} {n i : Nat} {g : Nat → Nat} (ha : a < nx) (hw : w a = aArr cA n g) (ht : (aw_tys G)[t0]? = some (cA, .char)) (hi : i < n) (hn : n < 2 ^ 31) (hdg : decode cc pc = .ok (.caload, 1)) (kk : AW G E nL nx cells slots w (pc + 1) lv (.int (nI (g i)) :: rest)) : AW G E nL nx cells slots w pc lv (.int (nI i) :: rf G a :: rest) :=
  aw_cald X a t0 ha hw ht (vp_in_nI hi hn) hdg (by rw [nI_clamp (by omega)]; exact kk)
theorem aw_ialdN (X : aw_X G own cc nL ret nm al n0 d mc ms E) (a t0 : Nat) {cA : ClassId} {n i : Nat} {g : Nat → Nat} (ha : a < nx) (hw : w a = aArr cA n g) (ht : (aw_tys G)[t0]? = some (cA, .int)) (hi : i < n) (hn : n < 2 ^ 31) (hdg : decode cc pc = .ok (.iaload, 1)) (kk : AW G E nL nx cells slots w (pc + 1) lv (.int (nI (g i)) :: rest)) : AW G E nL nx cells slots w pc lv (.int (nI i) :: rf G a :: rest) :=
  aw_iald X a t0 ha hw ht (vp_in_nI hi hn) hdg (by rw [nI_clamp (by omega)]; exact kk)
theorem aw_zaldN (X : aw_X G own cc nL ret nm al n0 d mc ms E) (a t0 : Nat) {cA : ClassId} {n i : Nat} {g : Nat → Nat} (ha : a < nx) (hw : w a = aArr cA n g) (ht : (aw_tys G)[t0]? = some (cA, .boolean)) (hi : i < n) (hn : n < 2 ^ 31) (hdg : decode cc pc = .ok (.baload, 1)) (kk : AW G E nL nx cells slots w (pc + 1) lv (.int (nI (g i)) :: rest)) : AW G E nL nx cells slots w pc lv (.int (nI i) :: rf G a :: rest) :=
  aw_zald X a t0 ha hw ht (vp_in_nI hi hn) hdg (by rw [nI_clamp (by omega)]; exact kk)
theorem aw_castN (X : aw_X G own cc nL ret nm al n0 d mc ms E) (a t0 : Nat) {cA : ClassId} {n i x : Nat} {g : Nat → Nat} (ha : a < nx) (hw : w a = aArr cA n g) (ht : (aw_tys G)[t0]? = some (cA, .char)) (hi : i < n) (hn : n < 2 ^ 31) (hx : x < 65536) (hdg : decode cc pc = .ok (.castore, 1)) (kk : AW G E nL nx cells slots (aw_up w a (aArr cA n (aw_un g i x))) (pc + 1) lv rest) : AW G E nL nx cells slots w pc lv (.int (nI x) :: .int (nI i) :: rf G a :: rest) :=
  aw_cast X a t0 ha hw ht (vp_in_nI hi hn) hdg (by rw [nI_clamp (by omega), aw_nar hx, aw_un_upd]; exact kk)
theorem aw_iastN (X : aw_X G own cc nL ret nm al n0 d mc ms E) (a t0 : Nat) {cA : ClassId} {n i x : Nat} {g : Nat → Nat} (ha : a < nx) (hw : w a = aArr cA n g) (ht : (aw_tys G)[t0]? = some (cA, .int)) (hi : i < n) (hn : n < 2 ^ 31)  (hdg : decode cc pc = .ok (.iastore, 1)) (kk : AW G E nL nx cells slots (aw_up w a (aArr cA n (aw_un g i x))) (pc + 1) lv rest) : AW G E nL nx cells slots w pc lv (.int (nI x) :: .int (nI i) :: rf G a :: rest) :=
  aw_iast X a t0 ha hw ht (vp_in_nI hi hn) hdg (by rw [nI_clamp (by omega), aw_un_upd]; exact kk)
theorem aw_zastN (X : aw_X G own cc nL ret nm al n0 d mc ms E) (a t0 : Nat) {cA : ClassId} {n i x : Nat} {g : Nat → Nat} (ha : a < nx) (hw : w a = aArr cA n g) (ht : (aw_tys G)[t0]? = some (cA, .boolean)) (hi : i < n) (hn : n < 2 ^ 31) (hx : x < 2) (hdg : decode cc pc = .ok (.bastore, 1)) (kk : AW G E nL nx cells slots (aw_up w a (aArr cA n (aw_un g i x))) (pc + 1) lv rest) : AW G E nL nx cells slots w pc lv (.int (nI x) :: .int (nI i) :: rf G a :: rest) :=
  aw_zast X a t0 ha hw ht (vp_in_nI hi hn) hdg (by rw [nI_clamp (by omega), aw_narB hx, aw_un_upd]; exact kk)
theorem aw_laldN (X : aw_X G own cc nL ret nm al n0 d mc ms E) (a t0 : Nat) {cA : ClassId} {n i : Nat} {f : Nat → Int64} (ha : a < nx) (hw : w a = aLong cA n f) (ht : (aw_tys G)[t0]? = some (cA, .long)) (hi : i < n) (hn : n < 2 ^ 31) (hdg : decode cc pc = .ok (.laload, 1)) (kk : AW G E nL nx cells slots w (pc + 1) lv (.long (f i) :: rest)) : AW G E nL nx cells slots w pc lv (.int (nI i) :: rf G a :: rest) :=
  aw_lald X a t0 ha hw ht (vp_in_nI hi hn) hdg (by rw [nI_clamp (by omega)]; exact kk)
theorem aw_lastN (X : aw_X G own cc nL ret nm al n0 d mc ms E) (a t0 : Nat) {cA : ClassId} {n i : Nat} {x : Int64} {f : Nat → Int64} (ha : a < nx) (hw : w a = aLong cA n f) (ht : (aw_tys G)[t0]? = some (cA, .long)) (hi : i < n) (hn : n < 2 ^ 31) (hdg : decode cc pc = .ok (.lastore, 1)) (kk : AW G E nL nx cells slots (aw_up w a (aLong cA n (vp_updL f i x))) (pc + 1) lv rest) : AW G E nL nx cells slots w pc lv (.long x :: .int (nI i) :: rf G a :: rest) :=
  aw_last X a t0 ha hw ht (vp_in_nI hi hn) hdg (by rw [nI_clamp (by omega)]; exact kk)
theorem aw_aaldN (X : aw_X G own cc nL ret nm al n0 d mc ms E) (a t0 : Nat) {cA : ClassId} {C : String} {n i q : Nat} {f : Nat → Option Nat} (ha : a < nx) (hw : w a = aRefs cA n f) (ht : (aw_tys G)[t0]? = some (cA, .object C)) (hi : i < n) (hn : n < 2 ^ 31) (hq : f i = some q) (hdg : decode cc pc = .ok (.aaload, 1)) (kk : AW G E nL nx cells slots w (pc + 1) lv (.ref q :: rest)) : AW G E nL nx cells slots w pc lv (.int (nI i) :: rf G a :: rest) :=
  aw_aald X a t0 ha hw ht (vp_in_nI hi hn) hdg (by rw [nI_clamp (by omega), hq]; exact kk)
theorem aw_aastN (X : aw_X G own cc nL ret nm al n0 d mc ms E) (a t0 v ci : Nat) {cA : ClassId} {r : vw_C} {n i : Nat} {vs : List Value} {f : Nat → Option Nat} (ha : a < nx) (hw : w a = aRefs cA n f) (ht : (aw_tys G)[t0]? = some (cA, .object r.1)) (hv : v < nx) (hwv : w v = aObj ci vs) (hc : classes[ci]? = some r) (hi : i < n) (hn : n < 2 ^ 31) (hdg : decode cc pc = .ok (.aastore, 1)) (kk : AW G E nL nx cells slots (aw_up w a (aRefs cA n (va_up f i (some (G.2.2.1 + v))))) (pc + 1) lv rest) : AW G E nL nx cells slots w pc lv (rf G v :: .int (nI i) :: rf G a :: rest) :=
  aw_aast X a t0 v ci ha hw ht hv hwv hc (vp_in_nI hi hn) hdg (by rw [nI_clamp (by omega)]; exact kk)
theorem aw_alenN (X : aw_X G own cc nL ret nm al n0 d mc ms E) (a t0 : Nat) {cA : ClassId} {n : Nat} {g : Nat → Nat} {ty : FieldType} (ha : a < nx) (hw : w a = aArr cA n g) (ht : (aw_tys G)[t0]? = some (cA, ty)) (hdg : decode cc pc = .ok (.arraylength, 1)) (kk : AW G E nL nx cells slots w (pc + 1) lv (.int (nI n) :: rest)) : AW G E nL nx cells slots w pc lv (rf G a :: rest) := aw_alen X a t0 ha hw ht hdg kk
theorem aw_getO (X : aw_X G own cc nL ret nm al n0 d mc ms E) {C : String} {T : u_T} {N ci index : Nat} {fs : List Value} {v : Value} (a k : Nat) (ha : a < nx) (hw : w a = aObj ci fs) (hc : classes[ci]? = some (C, T, N)) (hin : ∀ w ∈ u_ws C T N, w ∈ aw_tbl) (hk : k < N) (hlink : Cond.fieldLink own index (T k).1 (T k).2.1 (T k).2.2.1 ∈ aw_tbl) (hv : fs[k]? = some v) (hdg : decode cc pc = .ok (.getfield index, 3)) (kk : AW G E nL nx cells slots w (pc + 3) lv (v :: rest)) : AW G E nL nx cells slots w pc lv (rf G a :: rest) := aw_get X a k ha hw hc hin hk hlink hv hdg kk
theorem aw_getNO (X : aw_X G own cc nL ret nm al n0 d mc ms E) {host : String} {C : String} {T : u_T} {N ci index : Nat} {fs : List Value} {v : Value} (a k : Nat) (ha : a < nx) (hw : w a = aObj ci fs) (hc : classes[ci]? = some (C, T, N)) (hin : ∀ w ∈ u_ws C T N, w ∈ aw_tbl) (hk : k < N) (hlink : Cond.fieldLinkNest own index (T k).1 (T k).2.1 (T k).2.2.1 host ∈ aw_nest) (hv : fs[k]? = some v) (hdg : decode cc pc = .ok (.getfield index, 3)) (kk : AW G E nL nx cells slots w (pc + 3) lv (v :: rest)) : AW G E nL nx cells slots w pc lv (rf G a :: rest) := aw_getN X a k ha hw hc hin hk hlink hv hdg kk

theorem aw_putO (X : aw_X G own cc nL ret nm al n0 d mc ms E)  {C : String} {T : u_T} {N ci index : Nat} {fs : List Value} {v : Value} (a k : Nat) (ha : a < nx) (hw : w a = aObj ci fs) (hc : classes[ci]? = some (C, T, N)) (hin : ∀ w ∈ u_ws C T N, w ∈ aw_tbl) (hk : k < N) (ty0 : Nat → FieldType) (hty : ∀ k, k < N → parseFieldDescriptor (T k).2.2.1 = some (ty0 k)) (hnm : ∀ a, a < N → ∀ b, b < N → a ≠ b → (T a).2.1 ≠ (T b).2.1) (hlink : Cond.fieldLink own index (T k).1 (T k).2.1 (T k).2.2.1 ∈ aw_tbl) (hfin : (T k).2.2.2 = false)  (hn : narrow (ty0 k) v = v) (hfit : fits (ty0 k) v = true) (hl0 : k < fs.length) {fs' : List Value} (hfs : fs.set k v = fs') (hdg : decode cc pc = .ok (.putfield index, 3)) (kk : AW G E nL nx cells slots (aw_up w a (aObj ci fs')) (pc + 3) lv rest) : AW G E nL nx cells slots w pc lv (v :: rf G a :: rest) := by
  subst hfs
  exact aw_put X a k ha hw hc hin hk ty0 hty hnm hlink hfin  hn hfit hl0 hdg kk
theorem aw_putNO (X : aw_X G own cc nL ret nm al n0 d mc ms E) {host : String} {C : String} {T : u_T} {N ci index : Nat} {fs : List Value} {v : Value} (a k : Nat) (ha : a < nx) (hw : w a = aObj ci fs) (hc : classes[ci]? = some (C, T, N)) (hin : ∀ w ∈ u_ws C T N, w ∈ aw_tbl) (hk : k < N) (ty0 : Nat → FieldType) (hty : ∀ k, k < N → parseFieldDescriptor (T k).2.2.1 = some (ty0 k)) (hnm : ∀ a, a < N → ∀ b, b < N → a ≠ b → (T a).2.1 ≠ (T b).2.1) (hlink : Cond.fieldLinkNest own index (T k).1 (T k).2.1 (T k).2.2.1 host ∈ aw_nest) (hfin : (T k).2.2.2 = false)  (hn : narrow (ty0 k) v = v) (hfit : fits (ty0 k) v = true) (hl0 : k < fs.length) {fs' : List Value} (hfs : fs.set k v = fs') (hdg : decode cc pc = .ok (.putfield index, 3)) (kk : AW G E nL nx cells slots (aw_up w a (aObj ci fs')) (pc + 3) lv rest) : AW G E nL nx cells slots w pc lv (v :: rf G a :: rest) := by
  subst hfs
  exact aw_putN X a k ha hw hc hin hk ty0 hty hnm hlink hfin  hn hfit hl0 hdg kk
theorem aw_putFO (X : aw_X G own cc nL ret nm al n0 d mc ms E)  {C : String} {T : u_T} {N ci index : Nat} {fs : List Value} {v : Value} (a k : Nat) (ha : a < nx) (hw : w a = aObj ci fs) (hc : classes[ci]? = some (C, T, N)) (hin : ∀ w ∈ u_ws C T N, w ∈ aw_tbl) (hk : k < N) (ty0 : Nat → FieldType) (hty : ∀ k, k < N → parseFieldDescriptor (T k).2.2.1 = some (ty0 k)) (hnm : ∀ a, a < N → ∀ b, b < N → a ≠ b → (T a).2.1 ≠ (T b).2.1) (hlink : Cond.fieldLink own index (T k).1 (T k).2.1 (T k).2.2.1 ∈ aw_tbl) (hfin : (T k).2.2.2 = true) (hin2 : nm = "<init>") (hdecl : (T k).1 = own) (hn : narrow (ty0 k) v = v) (hfit : fits (ty0 k) v = true) (hl0 : k < fs.length) {fs' : List Value} (hfs : fs.set k v = fs') (hdg : decode cc pc = .ok (.putfield index, 3)) (kk : AW G E nL nx cells slots (aw_up w a (aObj ci fs')) (pc + 3) lv rest) : AW G E nL nx cells slots w pc lv (v :: rf G a :: rest) := by
  subst hfs
  exact aw_putF X a k ha hw hc hin hk ty0 hty hnm hlink hfin hin2 hdecl hn hfit hl0 hdg kk
theorem aw_zero (cA : ClassId) (n : Nat) {ty : FieldType} (h : defaultValue ty = .int 0) : vp_cell cA (n, .inl (fun j => nI ((fun _ => 0) j))) = arrV cA n (fun _ => defaultValue ty) := by
  rw [h]; rfl
theorem aw_newaN (X : aw_X G own cc nL ret nm al n0 d mc ms E) {atype : ArrayType} {ty : FieldType} (hty : newarray.typeOf atype = ty) (t0 : Nat) {cA : ClassId} (ht : (aw_tys G)[t0]? = some (cA, ty)) (hob : ∀ C, ty ≠ .object C) (hdef : defaultValue ty = .int 0) (hcb : componentBytes ty ≤ 8) (hal : al = true) (hnx : nx = n0 + cells) (harr : Cond.arrayClass (newarray.typeOf atype) ∈ aw_tbl) {n : Nat} (hn : n < 2 ^ 20) (hcells : cells + 1 ≤ mc) (hslots : slots + n ≤ ms) (hdg : decode cc pc = .ok (.newarray atype, 2))
    (kk : AW G E nL (nx + 1) (cells + 1) (slots + n) (aw_up w nx (aArr cA n (fun _ => 0))) (pc + 2) lv (rf G nx :: rest)) : AW G E nL nx cells slots w pc lv (.int (nI n) :: rest) := by
  refine aw_newa X hty t0 ht hob hal hnx harr (n, .inl (fun j => nI ((fun _ => 0) j))) (fun cA => aw_zero cA n hdef) (nI_pos (by omega)) (nI_clamp (by omega)) ?_ hcells hslots hdg kk
  have : n * componentBytes ty ≤ n * 8 := Nat.mul_le_mul_left n hcb
  omega
theorem aw_newaL (X : aw_X G own cc nL ret nm al n0 d mc ms E) {atype : ArrayType} {ty : FieldType} (hty : newarray.typeOf atype = ty) (t0 : Nat) {cA : ClassId} (ht : (aw_tys G)[t0]? = some (cA, ty)) (hob : ∀ C, ty ≠ .object C) (hdl : ty = .long := by rfl) (hal : al = true) (hnx : nx = n0 + cells) (harr : Cond.arrayClass (newarray.typeOf atype) ∈ aw_tbl) {n : Nat} (hn : n < 2 ^ 20) (hcells : cells + 1 ≤ mc) (hslots : slots + n ≤ ms) (hdg : decode cc pc = .ok (.newarray atype, 2))
    (kk : AW G E nL (nx + 1) (cells + 1) (slots + n) (aw_up w nx (aLong cA n (fun _ => 0))) (pc + 2) lv (rf G nx :: rest)) : AW G E nL nx cells slots w pc lv (.int (nI n) :: rest) := by
  subst hdl
  refine aw_newa X hty t0 ht hob hal hnx harr (n, .inr (.inl (fun _ => 0))) (fun cA => rfl) (nI_pos (by omega)) (nI_clamp (by omega)) ?_ hcells hslots hdg kk
  exact Nat.le_trans (Nat.mul_le_mul_left n (show componentBytes _ ≤ 8 by decide)) (by omega)
theorem aw_newqN (X : aw_X G own cc nL ret nm al n0 d mc ms E) {C : String} {index : Nat} (t0 : Nat) {cA : ClassId} (ht : (aw_tys G)[t0]? = some (cA, .object C)) (hal : al = true) (hnx : nx = n0 + cells) (hcl : Cond.classLink own index C ∈ aw_tbl) (hov : Cond.arrayOver (.object C) ∈ aw_nest) {n : Nat} (hn : n < 2 ^ 20) (hcells : cells + 1 ≤ mc) (hslots : slots + n ≤ ms) (hdg : decode cc pc = .ok (.anewarray index, 3))
    (kk : AW G E nL (nx + 1) (cells + 1) (slots + n) (aw_up w nx (aRefs cA n (fun _ => none))) (pc + 3) lv (rf G nx :: rest)) : AW G E nL nx cells slots w pc lv (.int (nI n) :: rest) :=
  aw_newq X t0 ht hal hnx hcl hov (nI_pos (by omega)) (nI_clamp (by omega)) (by omega) hcells hslots hdg kk
end AWN
end
section
section AWL
variable {G : aw_G} {E : aw_E} {P : Option Value → (Nat → va_E) → Nat → Prop} {nL d mc ms nx n0 cells slots pc : Nat} {al : Bool} {w : Nat → va_E} {lv : List (Nat × Value)} {rest : List Value} {own nm : String} {cc : ByteArray} {ret : Option FieldType}
theorem aw_cpn_eq (f g : Nat → Nat) (sp dp n : Nat) : va_cpy (fun j => nI (f j)) (fun j => nI (g j)) sp dp n = fun j => nI (aw_cpn f g sp dp n j) := by
  funext j
  unfold va_cpy aw_cpn
  by_cases h : dp ≤ j ∧ j < dp + n
  · rw [if_pos h, if_pos h]
  · rw [if_neg h, if_neg h]
/-- System.arraycopy between two char arrays -/
theorem aw_copyC (X : aw_X G own cc nL ret nm al n0 d mc ms E) (a0 a1 : Nat) {n0' n1 sp dp n index : Nat} {f g : Nat → Nat} (ha0 : a0 < nx) (hw0 : w a0 = aArr (G.2.2.2.1 0) n0' f) (ha1 : a1 < nx) (hw1 : w a1 = aArr (G.2.2.2.1 0) n1 g) (h4 : sp + n ≤ n0') (h5 : dp + n ≤ n1) (hb0 : n0' < 2 ^ 31) (hb1 : n1 < 2 ^ 31) (hf : ∀ j, f j < 65536)
    (hlink : Cond.methodLink own index arraycopyName ∈ aw_tbl) (hnat : Cond.native arraycopyName ∈ aw_tbl) (hsta : Cond.static arraycopyName ∈ aw_tbl) (hini : Cond.initialized "java/lang/System" ∈ aw_tbl) (hd : 1 ≤ d) (hlo : (rest.map fun v => v.category).sum + (nativeFrameWords "java/lang/System" "arraycopy" 5 + 11) ≤ 40 * d) (hdg : decode cc pc = .ok (.invokestatic index, 3))
    (kk : AW G E nL nx cells slots (aw_up w a1 (aArr (G.2.2.2.1 0) n1 (aw_cpn f g sp dp n))) (pc + 3) lv rest) : AW G E nL nx cells slots w pc lv (.int (nI n) :: .int (nI dp) :: rf G a1 :: .int (nI sp) :: rf G a0 :: rest) := by
  intro H locs ls hP hS hl
  obtain ⟨hx, hb, hmx, hown, hts, -, -, -, hK, -, hbs, hsz, hRf, hRl, hRc, hRs⟩ := X
  have c1 : (nI sp).toNatClampNeg = sp := nI_clamp (by omega)
  have c2 : (nI dp).toNatClampNeg = dp := nI_clamp (by omega)
  have c3 : (nI n).toNatClampNeg = n := nI_clamp (by omega)
  have e0 : (aw_ws G.2.2.1 nx w)[a0]? = some (G.2.2.1 + a0, .inl (G.2.2.2.1 0, n0', .inl (fun j => nI (f j)))) := by rw [aw_ws_get ha0, hw0]; rfl
  have e1 : (aw_ws G.2.2.1 nx w)[a1]? = some (G.2.2.1 + a1, .inl (G.2.2.2.1 0, n1, .inl (fun j => nI (g j)))) := by rw [aw_ws_get ha1, hw1]; rfl
  have et : (aw_tys G)[0]? = some (G.2.2.2.1 0, .char) := rfl
  refine va_copyi (ty := .char) (c0 := G.2.2.2.1 0) (c1 := G.2.2.2.1 0) (n0 := n0') (n1 := n1) (f := fun j => nI (f j)) (g := fun j => nI (g j)) (sp := nI sp) (dp := nI dp) (n := nI n) (A := aw_own G) hx hb (by rw [hmx]; exact hl.1.symm) hown (hts _ hlink) (hts _ hnat) (hts _ hsta) (hts _ hini) hK hP aw_D hS a0 a1 0 0 e0 e1 et et rfl (nI_pos (by omega)) (nI_pos (by omega)) (nI_pos (by omega)) (by rw [c1, c3]; exact h4) (by rw [c2, c3]; exact h5) (fun i _ => (pk_charN (hf _)).2) (Nat.le_trans hd hRf) (Nat.le_trans hlo hRl) hdg (fun H1 locs1 hP1 hD1 hS1 => ?_)
  rw [c1, c2, c3, aw_cpn_eq, aw_ws_set _ ha1] at hP1
  exact kk H1 locs1 ls hP1 hS1 hl
theorem aw_mminN (X : aw_X G own cc nL ret nm al n0 d mc ms E) {x y index : Nat} (hx' : x < 2 ^ 31) (hy' : y < 2 ^ 31) (hlink : Cond.methodLink own index Lib.Math.min.name ∈ aw_tbl) (hsta : Cond.static Lib.Math.min.name ∈ aw_tbl) (hini : Cond.initialized "java/lang/Math" ∈ aw_tbl) (hcode : Cond.code Lib.Math.min.name Lib.Math.min.code 2 (some .int) ∈ aw_tbl) (hd : 1 ≤ d) (hlo : (rest.map fun v => v.category).sum + 13 ≤ 40 * d) (hc : cells ≤ mc) (hs : slots ≤ ms) (hdg : decode cc pc = .ok (.invokestatic index, 3))
    (kk : AW G E nL nx cells slots w (pc + 3) lv (.int (nI (min x y)) :: rest)) : AW G E nL nx cells slots w pc lv (.int (nI y) :: .int (nI x) :: rest) := by
  intro H locs ls hP hS hl
  obtain ⟨hx, hb, hmx, hown, hts, -, -, -, hK, -, hbs, hsz, hRf, hRl, hRc, hRs⟩ := X
  refine va_mmin hx hb (by rw [hmx]; exact hl.1.symm) hown (hts _ hlink) (hts _ hsta) (hts _ hini) (hts _ hcode) (Nat.le_trans hd hRf) (Nat.le_trans hlo hRl) (Nat.le_trans hc hRc) (Nat.le_trans hs hRs) hdg ?_
  have e : (if nI y < nI x then nI y else nI x) = nI (min x y) := by
    by_cases h : y < x
    · rw [if_pos ((nI_ltI hy' hx').mpr h), Nat.min_eq_right (Nat.le_of_lt h)]
    · rw [if_neg (fun q => h ((nI_ltI hy' hx').mp q)), Nat.min_eq_left (Nat.not_lt.mp h)]
  rw [e]
  exact kk H locs ls hP hS hl
theorem aw_mmaxN (X : aw_X G own cc nL ret nm al n0 d mc ms E) {x y index : Nat} (hx' : x < 2 ^ 31) (hy' : y < 2 ^ 31) (hlink : Cond.methodLink own index Lib.Math.max.name ∈ aw_tbl) (hsta : Cond.static Lib.Math.max.name ∈ aw_tbl) (hini : Cond.initialized "java/lang/Math" ∈ aw_tbl) (hcode : Cond.code Lib.Math.max.name Lib.Math.max.code 2 (some .int) ∈ aw_tbl) (hd : 1 ≤ d) (hlo : (rest.map fun v => v.category).sum + 13 ≤ 40 * d) (hc : cells ≤ mc) (hs : slots ≤ ms) (hdg : decode cc pc = .ok (.invokestatic index, 3))
    (kk : AW G E nL nx cells slots w (pc + 3) lv (.int (nI (max x y)) :: rest)) : AW G E nL nx cells slots w pc lv (.int (nI y) :: .int (nI x) :: rest) := by
  intro H locs ls hP hS hl
  obtain ⟨hx, hb, hmx, hown, hts, -, -, -, hK, -, hbs, hsz, hRf, hRl, hRc, hRs⟩ := X
  refine va_mmax hx hb (by rw [hmx]; exact hl.1.symm) hown (hts _ hlink) (hts _ hsta) (hts _ hini) (hts _ hcode) (Nat.le_trans hd hRf) (Nat.le_trans hlo hRl) (Nat.le_trans hc hRc) (Nat.le_trans hs hRs) hdg ?_
  have e : (if nI x < nI y then nI y else nI x) = nI (max x y) := by
    by_cases h : x < y
    · rw [if_pos ((nI_ltI hx' hy').mpr h), Nat.max_eq_right (Nat.le_of_lt h)]
    · rw [if_neg (fun q => h ((nI_ltI hx' hy').mp q)), Nat.max_eq_left (Nat.not_lt.mp h)]
  rw [e]
  exact kk H locs ls hP hS hl
theorem aw_mminL (X : aw_X G own cc nL ret nm al n0 d mc ms E) {x y : Int64} {index : Nat} (hlink : Cond.methodLink own index Lib.MathLoose.min_long.x ∈ aw_tbl) (hsta : Cond.static Lib.MathLoose.min_long.x ∈ aw_tbl) (hini : Cond.initialized "java/lang/Math" ∈ aw_tbl) (hcode : Cond.code Lib.MathLoose.min_long.x Lib.MathLoose.min_long.code 4 (some .long) ∈ aw_tbl) (hd : 1 ≤ d) (hlo : (rest.map fun v => v.category).sum + 15 ≤ 40 * d) (hc : cells ≤ mc) (hs : slots ≤ ms) (hdg : decode cc pc = .ok (.invokestatic index, 3))
    (kk : AW G E nL nx cells slots w (pc + 3) lv (.long (if y < x then y else x) :: rest)) : AW G E nL nx cells slots w pc lv (.long y :: .long x :: rest) := by
  intro H locs ls hP hS hl
  obtain ⟨hx, hb, hmx, hown, hts, -, -, -, hK, -, hbs, hsz, hRf, hRl, hRc, hRs⟩ := X
  exact va_mmin_long hx hb (by rw [hmx]; exact hl.1.symm) hown (hts _ hlink) (hts _ hsta) (hts _ hini) (hts _ hcode) (Nat.le_trans hd hRf) (Nat.le_trans hlo hRl) (Nat.le_trans hc hRc) (Nat.le_trans hs hRs) hdg (kk H locs ls hP hS hl)
theorem aw_mmaxL (X : aw_X G own cc nL ret nm al n0 d mc ms E) {x y : Int64} {index : Nat} (hlink : Cond.methodLink own index Lib.MathLoose.max_long.x ∈ aw_tbl) (hsta : Cond.static Lib.MathLoose.max_long.x ∈ aw_tbl) (hini : Cond.initialized "java/lang/Math" ∈ aw_tbl) (hcode : Cond.code Lib.MathLoose.max_long.x Lib.MathLoose.max_long.code 4 (some .long) ∈ aw_tbl) (hd : 1 ≤ d) (hlo : (rest.map fun v => v.category).sum + 15 ≤ 40 * d) (hc : cells ≤ mc) (hs : slots ≤ ms) (hdg : decode cc pc = .ok (.invokestatic index, 3))
    (kk : AW G E nL nx cells slots w (pc + 3) lv (.long (if y < x then x else y) :: rest)) : AW G E nL nx cells slots w pc lv (.long y :: .long x :: rest) := by
  intro H locs ls hP hS hl
  obtain ⟨hx, hb, hmx, hown, hts, -, -, -, hK, -, hbs, hsz, hRf, hRl, hRc, hRs⟩ := X
  exact va_mmax_long hx hb (by rw [hmx]; exact hl.1.symm) hown (hts _ hlink) (hts _ hsta) (hts _ hini) (hts _ hcode) (Nat.le_trans hd hRf) (Nat.le_trans hlo hRl) (Nat.le_trans hc hRc) (Nat.le_trans hs hRs) hdg (kk H locs ls hP hS hl)
end AWL
end
section
/-! the words of the tables, by their places; written by wip/whole/gen.py -/
theorem k_0 : Cond.selects "java/lang/Throwable" ⟨"java/lang/Throwable", "fillInStackTrace", "(I)Ljava/lang/Throwable;"⟩ ⟨"java/lang/Throwable", "fillInStackTrace", "(I)Ljava/lang/Throwable;"⟩ ∈ aw_tbl := aw_i0 0 rfl rfl
theorem k_1 : Cond.selects "RescanDesk" ⟨"RescanDesk", "begin", "()V"⟩ ⟨"RescanDesk", "begin", "()V"⟩ ∈ aw_tbl := aw_i0 1 rfl rfl
theorem k_2 : Cond.selects "RescanDesk" ⟨"RescanDesk", "read", "()I"⟩ ⟨"RescanDesk", "read", "()I"⟩ ∈ aw_tbl := aw_i0 2 rfl rfl
theorem k_3 : Cond.selects "RescanDesk" ⟨"RescanDesk", "readQuote", "()I"⟩ ⟨"RescanDesk", "readQuote", "()I"⟩ ∈ aw_tbl := aw_i0 3 rfl rfl
theorem k_4 : Cond.selects "RescanDesk" ⟨"RescanDesk", "write", "(II)I"⟩ ⟨"RescanDesk", "write", "(II)I"⟩ ∈ aw_tbl := aw_i0 4 rfl rfl
theorem k_5 : Cond.selects "RescanDesk" ⟨"RescanDesk", "readName", "()I"⟩ ⟨"RescanDesk", "readName", "()I"⟩ ∈ aw_tbl := aw_i0 5 rfl rfl
theorem k_6 : Cond.selects "RescanDesk" ⟨"RescanDesk", "readInCall", "(LRescanDesk$Call;C)I"⟩ ⟨"RescanDesk", "readInCall", "(LRescanDesk$Call;C)I"⟩ ∈ aw_tbl := aw_i0 6 rfl rfl
theorem k_7 : Cond.selects "RescanDesk$Expander" ⟨"RescanDesk$Expander", "makeBody", "(LRescanDesk$Call;)V"⟩ ⟨"RescanDesk$Expander", "makeBody", "(LRescanDesk$Call;)V"⟩ ∈ aw_tbl := aw_i0 7 rfl rfl
theorem k_8 : Cond.selects "RescanDesk$Expander" ⟨"RescanDesk$Expander", "makeParameter", "(LRescanDesk$Call;C)Z"⟩ ⟨"RescanDesk$Expander", "makeParameter", "(LRescanDesk$Call;C)Z"⟩ ∈ aw_tbl := aw_i0 8 rfl rfl
theorem k_9 : Cond.selects "RescanDesk$Expander" ⟨"RescanDesk$Expander", "makeArgument", "(LRescanDesk$Call;I)V"⟩ ⟨"RescanDesk$Expander", "makeArgument", "(LRescanDesk$Call;I)V"⟩ ∈ aw_tbl := aw_i0 9 rfl rfl
theorem k_10 : Cond.selects "RescanDesk$Expander" ⟨"RescanDesk$Expander", "makeList", "(LRescanDesk$Call;IZ)V"⟩ ⟨"RescanDesk$Expander", "makeList", "(LRescanDesk$Call;IZ)V"⟩ ∈ aw_tbl := aw_i0 10 rfl rfl
theorem k_11 : Cond.selects "RescanDesk$Expander" ⟨"RescanDesk$Expander", "act", "(LRescanDesk$Call;LRescanDesk$BuiltIn;)I"⟩ ⟨"RescanDesk$Expander", "act", "(LRescanDesk$Call;LRescanDesk$BuiltIn;)I"⟩ ∈ aw_tbl := aw_i0 11 rfl rfl
theorem k_12 : Cond.selects "RescanDesk$Expander" ⟨"RescanDesk$Expander", "define", "(LRescanDesk$Call;Z)I"⟩ ⟨"RescanDesk$Expander", "define", "(LRescanDesk$Call;Z)I"⟩ ∈ aw_tbl := aw_i0 12 rfl rfl
theorem k_13 : Cond.selects "RescanDesk$Expander" ⟨"RescanDesk$Expander", "placeOfFirst", "(LRescanDesk$Call;)I"⟩ ⟨"RescanDesk$Expander", "placeOfFirst", "(LRescanDesk$Call;)I"⟩ ∈ aw_tbl := aw_i0 13 rfl rfl
theorem k_14 : Cond.selects "RescanDesk$Table" ⟨"RescanDesk$Table", "remove", "(I)V"⟩ ⟨"RescanDesk$Table", "remove", "(I)V"⟩ ∈ aw_tbl := aw_i0 14 rfl rfl
theorem k_15 : Cond.selects "RescanDesk$Expander" ⟨"RescanDesk$Expander", "undivert", "(LRescanDesk$Call;)I"⟩ ⟨"RescanDesk$Expander", "undivert", "(LRescanDesk$Call;)I"⟩ ∈ aw_tbl := aw_i0 15 rfl rfl
theorem k_16 : Cond.selects "RescanDesk$Expression" ⟨"RescanDesk$Expression", "level", "(II)J"⟩ ⟨"RescanDesk$Expression", "level", "(II)J"⟩ ∈ aw_tbl := aw_i0 16 rfl rfl
theorem k_17 : Cond.selects "RescanDesk$Expression" ⟨"RescanDesk$Expression", "operand", "(I)J"⟩ ⟨"RescanDesk$Expression", "operand", "(I)J"⟩ ∈ aw_tbl := aw_i0 17 rfl rfl
theorem k_18 : Cond.selects "RescanDesk$Expression" ⟨"RescanDesk$Expression", "number", "()J"⟩ ⟨"RescanDesk$Expression", "number", "()J"⟩ ∈ aw_tbl := aw_i0 18 rfl rfl
theorem k_19 : Cond.selects "RescanDesk$Expression" ⟨"RescanDesk$Expression", "combine", "(CJJ)J"⟩ ⟨"RescanDesk$Expression", "combine", "(CJJ)J"⟩ ∈ aw_tbl := aw_i0 19 rfl rfl
theorem k_20 : Cond.selects "RescanDesk$Expression" ⟨"RescanDesk$Expression", "divide", "(CJJ)J"⟩ ⟨"RescanDesk$Expression", "divide", "(CJJ)J"⟩ ∈ aw_tbl := aw_i0 20 rfl rfl
theorem k_21 : Cond.selects "RescanDesk$Expander" ⟨"RescanDesk$Expander", "makeText", "(LRescanDesk$Call;LRescanDesk$BuiltIn;)V"⟩ ⟨"RescanDesk$Expander", "makeText", "(LRescanDesk$Call;LRescanDesk$BuiltIn;)V"⟩ ∈ aw_tbl := aw_i0 21 rfl rfl
theorem k_22 : Cond.selects "RescanDesk$Expander" ⟨"RescanDesk$Expander", "chosen", "(LRescanDesk$Call;)I"⟩ ⟨"RescanDesk$Expander", "chosen", "(LRescanDesk$Call;)I"⟩ ∈ aw_tbl := aw_i0 22 rfl rfl
theorem k_23 : Cond.selects "RescanDesk$Expander" ⟨"RescanDesk$Expander", "makePart", "(LRescanDesk$Call;)V"⟩ ⟨"RescanDesk$Expander", "makePart", "(LRescanDesk$Call;)V"⟩ ∈ aw_tbl := aw_i0 23 rfl rfl
theorem k_24 : Cond.selects "RescanDesk$Expander" ⟨"RescanDesk$Expander", "index", "(LRescanDesk$Call;)I"⟩ ⟨"RescanDesk$Expander", "index", "(LRescanDesk$Call;)I"⟩ ∈ aw_tbl := aw_i0 24 rfl rfl
theorem k_25 : Cond.selects "RescanDesk" ⟨"RescanDesk", "finish", "()I"⟩ ⟨"RescanDesk", "finish", "()I"⟩ ∈ aw_tbl := aw_i0 25 rfl rfl
theorem k_26 : Cond.selects "RescanDeskModel" ⟨"RescanDeskModel", "built", "(JI)V"⟩ ⟨"RescanDeskModel", "built", "(JI)V"⟩ ∈ aw_tbl := aw_i0 26 rfl rfl
theorem k_27 : Cond.selects "RescanDeskModel" ⟨"RescanDeskModel", "stop", "(I)V"⟩ ⟨"RescanDeskModel", "stop", "(I)V"⟩ ∈ aw_tbl := aw_i0 27 rfl rfl
theorem k_28 : Cond.selects "RescanDeskModel" ⟨"RescanDeskModel", "step", "()V"⟩ ⟨"RescanDeskModel", "step", "()V"⟩ ∈ aw_tbl := aw_i0 28 rfl rfl
theorem k_29 : Cond.selects "RescanDeskModel" ⟨"RescanDeskModel", "next", "(I)I"⟩ ⟨"RescanDeskModel", "next", "(I)I"⟩ ∈ aw_tbl := aw_i0 29 rfl rfl
theorem k_30 : Cond.selects "RescanDeskModel" ⟨"RescanDeskModel", "quoted", "()V"⟩ ⟨"RescanDeskModel", "quoted", "()V"⟩ ∈ aw_tbl := aw_i0 30 rfl rfl
theorem k_31 : Cond.selects "RescanDeskModel" ⟨"RescanDeskModel", "write", "(C)V"⟩ ⟨"RescanDeskModel", "write", "(C)V"⟩ ∈ aw_tbl := aw_i0 31 rfl rfl
theorem k_32 : Cond.selects "RescanDeskModel" ⟨"RescanDeskModel", "named", "()V"⟩ ⟨"RescanDeskModel", "named", "()V"⟩ ∈ aw_tbl := aw_i0 32 rfl rfl
theorem k_33 : Cond.selects "RescanDeskModel" ⟨"RescanDeskModel", "find", "([CII)I"⟩ ⟨"RescanDeskModel", "find", "([CII)I"⟩ ∈ aw_tbl := aw_i0 33 rfl rfl
theorem k_34 : Cond.selects "RescanDeskModel" ⟨"RescanDeskModel", "isNamed", "(I[CII)Z"⟩ ⟨"RescanDeskModel", "isNamed", "(I[CII)Z"⟩ ∈ aw_tbl := aw_i0 34 rfl rfl
theorem k_35 : Cond.selects "RescanDeskModel" ⟨"RescanDeskModel", "begin", "(II)V"⟩ ⟨"RescanDeskModel", "begin", "(II)V"⟩ ∈ aw_tbl := aw_i0 35 rfl rfl
theorem k_36 : Cond.selects "RescanDeskModel" ⟨"RescanDeskModel", "expand", "()V"⟩ ⟨"RescanDeskModel", "expand", "()V"⟩ ∈ aw_tbl := aw_i0 36 rfl rfl
theorem k_37 : Cond.selects "RescanDeskModel" ⟨"RescanDeskModel", "putBody", "()V"⟩ ⟨"RescanDeskModel", "putBody", "()V"⟩ ∈ aw_tbl := aw_i0 37 rfl rfl
theorem k_38 : Cond.selects "RescanDeskModel" ⟨"RescanDeskModel", "put", "(C)V"⟩ ⟨"RescanDeskModel", "put", "(C)V"⟩ ∈ aw_tbl := aw_i0 38 rfl rfl
theorem k_39 : Cond.selects "RescanDeskModel" ⟨"RescanDeskModel", "putNumber", "(J)V"⟩ ⟨"RescanDeskModel", "putNumber", "(J)V"⟩ ∈ aw_tbl := aw_i0 39 rfl rfl
theorem k_40 : Cond.selects "RescanDeskModel" ⟨"RescanDeskModel", "putAll", "(IZ)V"⟩ ⟨"RescanDeskModel", "putAll", "(IZ)V"⟩ ∈ aw_tbl := aw_i0 40 rfl rfl
theorem k_41 : Cond.selects "RescanDeskModel" ⟨"RescanDeskModel", "putArgument", "(I)V"⟩ ⟨"RescanDeskModel", "putArgument", "(I)V"⟩ ∈ aw_tbl := aw_i0 41 rfl rfl
theorem k_42 : Cond.selects "RescanDeskModel" ⟨"RescanDeskModel", "length", "(I)I"⟩ ⟨"RescanDeskModel", "length", "(I)I"⟩ ∈ aw_tbl := aw_i0 42 rfl rfl
theorem k_43 : Cond.selects "RescanDeskModel" ⟨"RescanDeskModel", "from", "(I)I"⟩ ⟨"RescanDeskModel", "from", "(I)I"⟩ ∈ aw_tbl := aw_i0 43 rfl rfl
theorem k_44 : Cond.selects "RescanDeskModel" ⟨"RescanDeskModel", "carryOut", "(I)V"⟩ ⟨"RescanDeskModel", "carryOut", "(I)V"⟩ ∈ aw_tbl := aw_i0 44 rfl rfl
theorem k_45 : Cond.selects "RescanDeskModel" ⟨"RescanDeskModel", "define", "(Z)V"⟩ ⟨"RescanDeskModel", "define", "(Z)V"⟩ ∈ aw_tbl := aw_i0 45 rfl rfl
theorem k_46 : Cond.selects "RescanDeskModel" ⟨"RescanDeskModel", "isName", "(I)Z"⟩ ⟨"RescanDeskModel", "isName", "(I)Z"⟩ ∈ aw_tbl := aw_i0 46 rfl rfl
theorem k_47 : Cond.selects "RescanDeskModel" ⟨"RescanDeskModel", "undefine", "(Z)V"⟩ ⟨"RescanDeskModel", "undefine", "(Z)V"⟩ ∈ aw_tbl := aw_i0 47 rfl rfl
theorem k_48 : Cond.selects "RescanDeskModel" ⟨"RescanDeskModel", "move", "(II)V"⟩ ⟨"RescanDeskModel", "move", "(II)V"⟩ ∈ aw_tbl := aw_i0 48 rfl rfl
theorem k_49 : Cond.selects "RescanDeskModel" ⟨"RescanDeskModel", "choose", "()V"⟩ ⟨"RescanDeskModel", "choose", "()V"⟩ ∈ aw_tbl := aw_i0 49 rfl rfl
theorem k_50 : Cond.selects "RescanDeskModel" ⟨"RescanDeskModel", "areEqual", "(II)Z"⟩ ⟨"RescanDeskModel", "areEqual", "(II)Z"⟩ ∈ aw_tbl := aw_i0 50 rfl rfl
theorem k_51 : Cond.selects "RescanDeskModel" ⟨"RescanDeskModel", "value", "(I)J"⟩ ⟨"RescanDeskModel", "value", "(I)J"⟩ ∈ aw_tbl := aw_i0 51 rfl rfl
theorem k_52 : Cond.selects "RescanDeskModel" ⟨"RescanDeskModel", "reckon", "()V"⟩ ⟨"RescanDeskModel", "reckon", "()V"⟩ ∈ aw_tbl := aw_i0 52 rfl rfl
theorem k_53 : Cond.selects "RescanDeskModel" ⟨"RescanDeskModel", "whole", "()V"⟩ ⟨"RescanDeskModel", "whole", "()V"⟩ ∈ aw_tbl := aw_i0 53 rfl rfl
theorem k_54 : Cond.selects "RescanDeskModel" ⟨"RescanDeskModel", "settle", "(I)V"⟩ ⟨"RescanDeskModel", "settle", "(I)V"⟩ ∈ aw_tbl := aw_i0 54 rfl rfl
theorem k_55 : Cond.selects "RescanDeskModel" ⟨"RescanDeskModel", "made", "(IJJ)J"⟩ ⟨"RescanDeskModel", "made", "(IJJ)J"⟩ ∈ aw_tbl := aw_i0 55 rfl rfl
theorem k_56 : Cond.selects "RescanDeskModel" ⟨"RescanDeskModel", "cut", "()V"⟩ ⟨"RescanDeskModel", "cut", "()V"⟩ ∈ aw_tbl := aw_i0 56 rfl rfl
theorem k_57 : Cond.selects "RescanDeskModel" ⟨"RescanDeskModel", "index", "()I"⟩ ⟨"RescanDeskModel", "index", "()I"⟩ ∈ aw_tbl := aw_i0 57 rfl rfl
theorem k_58 : Cond.selects "RescanDeskModel" ⟨"RescanDeskModel", "pour", "(II)V"⟩ ⟨"RescanDeskModel", "pour", "(II)V"⟩ ∈ aw_tbl := aw_i0 58 rfl rfl
theorem k_59 : Cond.selects "RescanDeskModel" ⟨"RescanDeskModel", "gather", "(C)V"⟩ ⟨"RescanDeskModel", "gather", "(C)V"⟩ ∈ aw_tbl := aw_i0 59 rfl rfl
theorem k_60 : Cond.selects "RescanDeskModel" ⟨"RescanDeskModel", "close", "()V"⟩ ⟨"RescanDeskModel", "close", "()V"⟩ ∈ aw_tbl := aw_i0 60 rfl rfl
theorem k_61 : Cond.selects "RescanDeskModel" ⟨"RescanDeskModel", "macros", "()I"⟩ ⟨"RescanDeskModel", "macros", "()I"⟩ ∈ aw_tbl := aw_i0 61 rfl rfl
theorem k_62 : Cond.initialized "RescanDeskLaw" ∈ aw_tbl := aw_i1 0 rfl rfl
theorem k_63 : Cond.initialized "RescanDesk" ∈ aw_tbl := aw_i1 1 rfl rfl
theorem k_64 : Cond.initialized "RescanDesk$Text" ∈ aw_tbl := aw_i1 2 rfl rfl
theorem k_65 : Cond.initialized "RescanDesk$Front" ∈ aw_tbl := aw_i1 3 rfl rfl
theorem k_66 : Cond.initialized "RescanDesk$Rows" ∈ aw_tbl := aw_i1 4 rfl rfl
theorem k_67 : Cond.initialized "RescanDesk$Table" ∈ aw_tbl := aw_i1 5 rfl rfl
theorem k_68 : Cond.initialized "RescanDesk$Definition" ∈ aw_tbl := aw_i1 6 rfl rfl
theorem k_69 : Cond.initialized "java/lang/Enum" ∈ aw_tbl := aw_i1 7 rfl rfl
theorem k_70 : Cond.initialized "RescanDesk$BuiltIn" ∈ aw_tbl := aw_i1 8 rfl rfl
theorem k_71 : Cond.initialized "java/lang/String" ∈ aw_tbl := aw_i1 9 rfl rfl
theorem k_72 : Cond.initialized "java/lang/StringLatin1" ∈ aw_tbl := aw_i1 10 rfl rfl
theorem k_73 : Cond.initialized "jdk/internal/util/Preconditions" ∈ aw_tbl := aw_i1 11 rfl rfl
theorem k_74 : Cond.initialized "java/lang/StringUTF16" ∈ aw_tbl := aw_i1 12 rfl rfl
theorem k_75 : Cond.initialized "RescanDesk$Calls" ∈ aw_tbl := aw_i1 13 rfl rfl
theorem k_76 : Cond.initialized "RescanDesk$Call" ∈ aw_tbl := aw_i1 14 rfl rfl
theorem k_77 : Cond.initialized "RescanDesk$Expander" ∈ aw_tbl := aw_i1 15 rfl rfl
theorem k_78 : Cond.initialized "RescanDesk$Expression" ∈ aw_tbl := aw_i1 16 rfl rfl
theorem k_79 : Cond.initialized "RescanDeskModel" ∈ aw_tbl := aw_i1 17 rfl rfl
theorem k_80 : Cond.initialized "java/lang/Throwable" ∈ aw_tbl := aw_i1 18 rfl rfl
theorem k_81 : Cond.initialized "java/lang/Exception" ∈ aw_tbl := aw_i1 19 rfl rfl
theorem k_82 : Cond.initialized "java/lang/RuntimeException" ∈ aw_tbl := aw_i1 20 rfl rfl
theorem k_83 : Cond.initialized "java/lang/IllegalArgumentException" ∈ aw_tbl := aw_i1 21 rfl rfl
theorem k_84 : Cond.initialized "java/lang/System" ∈ aw_tbl := aw_i1 22 rfl rfl
theorem k_85 : Cond.initialized "java/lang/Math" ∈ aw_tbl := aw_i1 23 rfl rfl
theorem k_86 : Cond.initialized "RescanDesk$1" ∈ aw_tbl := aw_i1 24 rfl rfl
theorem k_87 : Cond.initialized "java/lang/IndexOutOfBoundsException" ∈ aw_tbl := aw_i1 25 rfl rfl
theorem k_88 : Cond.classLink "RescanDeskLaw" 8 "RescanDesk" ∈ aw_tbl := aw_i1 26 rfl rfl
theorem k_89 : Cond.instantiable "RescanDesk" 8 ∈ aw_tbl := aw_i1 27 rfl rfl
theorem k_90 : Cond.methodLink "RescanDeskLaw" 21 ⟨"RescanDesk", "<init>", "()V"⟩ ∈ aw_tbl := aw_i1 28 rfl rfl
theorem k_91 : Cond.instanceMethod ⟨"RescanDesk", "<init>", "()V"⟩ ∈ aw_tbl := aw_i1 29 rfl rfl
theorem k_92 : Cond.code ⟨"RescanDesk", "<init>", "()V"⟩ prog_1_method_1_code 1 none ∈ aw_tbl := aw_i1 30 rfl rfl
theorem k_93 : Cond.methodLink "RescanDesk" 1 ⟨"java/lang/Object", "<init>", "()V"⟩ ∈ aw_tbl := aw_i1 31 rfl rfl
theorem k_94 : Cond.instanceMethod ⟨"java/lang/Object", "<init>", "()V"⟩ ∈ aw_tbl := aw_i1 32 rfl rfl
theorem k_95 : Cond.code ⟨"java/lang/Object", "<init>", "()V"⟩ object_method_1_code 1 none ∈ aw_tbl := aw_i1 33 rfl rfl
theorem k_96 : Cond.classLink "RescanDesk" 7 "RescanDesk$Text" ∈ aw_tbl := aw_i1 34 rfl rfl
theorem k_97 : Cond.instantiable "RescanDesk$Text" 2 ∈ aw_tbl := aw_i1 35 rfl rfl
theorem k_98 : Cond.methodLink "RescanDesk" 11 ⟨"RescanDesk$Text", "<init>", "(I)V"⟩ ∈ aw_tbl := aw_i1 36 rfl rfl
theorem k_99 : Cond.instanceMethod ⟨"RescanDesk$Text", "<init>", "(I)V"⟩ ∈ aw_tbl := aw_i1 37 rfl rfl
theorem k_100 : Cond.code ⟨"RescanDesk$Text", "<init>", "(I)V"⟩ prog_12_method_1_code 2 none ∈ aw_tbl := aw_i1 38 rfl rfl
theorem k_101 : Cond.methodLink "RescanDesk$Text" 3 ⟨"java/lang/Object", "<init>", "()V"⟩ ∈ aw_tbl := aw_i1 39 rfl rfl
theorem k_102 : Cond.fieldLink "RescanDesk$Text" 9 "RescanDesk$Text" "chars" "[C" ∈ aw_tbl := aw_i1 40 rfl rfl
theorem k_103 : Cond.fieldLinkNest "RescanDesk$Calls" 26 "RescanDesk$Text" "chars" "[C" "RescanDesk" ∈ aw_nest := aw_n1 41 rfl rfl
theorem k_104 : Cond.fieldLinkNest "RescanDesk$Expander" 79 "RescanDesk$Text" "chars" "[C" "RescanDesk" ∈ aw_nest := aw_n1 42 rfl rfl
theorem k_105 : Cond.fieldLinkNest "RescanDesk$Table" 42 "RescanDesk$Text" "chars" "[C" "RescanDesk" ∈ aw_nest := aw_n1 43 rfl rfl
theorem k_106 : Cond.fieldLinkNest "RescanDesk$Expression" 56 "RescanDesk$Text" "chars" "[C" "RescanDesk" ∈ aw_nest := aw_n1 44 rfl rfl
theorem k_107 : Cond.fieldLinkNest "RescanDesk$Definition" 54 "RescanDesk$Text" "chars" "[C" "RescanDesk" ∈ aw_nest := aw_n1 45 rfl rfl
theorem k_108 : Cond.fieldLinkNest "RescanDesk$Front" 28 "RescanDesk$Text" "chars" "[C" "RescanDesk" ∈ aw_nest := aw_n1 46 rfl rfl
theorem k_109 : Cond.fieldLinkNest "RescanDesk$Rows" 33 "RescanDesk$Text" "chars" "[C" "RescanDesk" ∈ aw_nest := aw_n1 47 rfl rfl
theorem k_110 : Cond.fieldLinkNest "RescanDesk" 99 "RescanDesk$Text" "chars" "[C" "RescanDesk" ∈ aw_nest := aw_n1 48 rfl rfl
theorem k_111 : Cond.fieldLink "RescanDesk$Text" 15 "RescanDesk$Text" "length" "I" ∈ aw_tbl := aw_i1 49 rfl rfl
theorem k_112 : Cond.fieldLinkNest "RescanDesk$Expression" 45 "RescanDesk$Text" "length" "I" "RescanDesk" ∈ aw_nest := aw_n1 50 rfl rfl
theorem k_113 : Cond.fieldLinkNest "RescanDesk" 67 "RescanDesk$Text" "length" "I" "RescanDesk" ∈ aw_nest := aw_n1 51 rfl rfl
theorem k_114 : Cond.fieldLinkNest "RescanDesk$Expander" 75 "RescanDesk$Text" "length" "I" "RescanDesk" ∈ aw_nest := aw_n1 52 rfl rfl
theorem k_115 : Cond.fieldLinkNest "RescanDesk$Table" 46 "RescanDesk$Text" "length" "I" "RescanDesk" ∈ aw_nest := aw_n1 53 rfl rfl
theorem k_116 : Cond.fieldLinkNest "RescanDesk$Front" 23 "RescanDesk$Text" "length" "I" "RescanDesk" ∈ aw_nest := aw_n1 54 rfl rfl
theorem k_117 : Cond.fieldLinkNest "RescanDesk$Definition" 58 "RescanDesk$Text" "length" "I" "RescanDesk" ∈ aw_nest := aw_n1 55 rfl rfl
theorem k_118 : Cond.fieldLinkNest "RescanDesk$Rows" 37 "RescanDesk$Text" "length" "I" "RescanDesk" ∈ aw_nest := aw_n1 56 rfl rfl
theorem k_119 : Cond.fieldLinkNest "RescanDesk$Calls" 65 "RescanDesk$Text" "length" "I" "RescanDesk" ∈ aw_nest := aw_n1 57 rfl rfl
theorem k_125 : Cond.arrayClass .char ∈ aw_tbl := aw_i1 63 rfl rfl
theorem k_126 : Cond.classLink "RescanDesk" 18 "RescanDesk$Front" ∈ aw_tbl := aw_i1 64 rfl rfl
theorem k_127 : Cond.instantiable "RescanDesk$Front" 2 ∈ aw_tbl := aw_i1 65 rfl rfl
theorem k_128 : Cond.methodLink "RescanDesk" 20 ⟨"RescanDesk$Front", "<init>", "()V"⟩ ∈ aw_tbl := aw_i1 66 rfl rfl
theorem k_129 : Cond.instanceMethod ⟨"RescanDesk$Front", "<init>", "()V"⟩ ∈ aw_tbl := aw_i1 67 rfl rfl
theorem k_130 : Cond.code ⟨"RescanDesk$Front", "<init>", "()V"⟩ prog_9_method_1_code 1 none ∈ aw_tbl := aw_i1 68 rfl rfl
theorem k_131 : Cond.methodLink "RescanDesk$Front" 3 ⟨"java/lang/Object", "<init>", "()V"⟩ ∈ aw_tbl := aw_i1 69 rfl rfl
theorem k_132 : Cond.fieldLink "RescanDesk$Front" 9 "RescanDesk$Front" "chars" "[C" ∈ aw_tbl := aw_i1 70 rfl rfl
theorem k_133 : Cond.fieldLinkNest "RescanDesk" 128 "RescanDesk$Front" "chars" "[C" "RescanDesk" ∈ aw_nest := aw_n1 71 rfl rfl
theorem k_134 : Cond.fieldLink "RescanDesk$Front" 15 "RescanDesk$Front" "start" "I" ∈ aw_tbl := aw_i1 72 rfl rfl
theorem k_135 : Cond.fieldLinkNest "RescanDesk" 129 "RescanDesk$Front" "start" "I" "RescanDesk" ∈ aw_nest := aw_n1 73 rfl rfl
theorem k_141 : Cond.classLink "RescanDesk" 25 "RescanDesk$Rows" ∈ aw_tbl := aw_i1 79 rfl rfl
theorem k_142 : Cond.instantiable "RescanDesk$Rows" 2 ∈ aw_tbl := aw_i1 80 rfl rfl
theorem k_143 : Cond.methodLink "RescanDesk" 27 ⟨"RescanDesk$Rows", "<init>", "()V"⟩ ∈ aw_tbl := aw_i1 81 rfl rfl
theorem k_144 : Cond.instanceMethod ⟨"RescanDesk$Rows", "<init>", "()V"⟩ ∈ aw_tbl := aw_i1 82 rfl rfl
theorem k_145 : Cond.code ⟨"RescanDesk$Rows", "<init>", "()V"⟩ prog_10_method_1_code 2 none ∈ aw_tbl := aw_i1 83 rfl rfl
theorem k_146 : Cond.methodLink "RescanDesk$Rows" 3 ⟨"java/lang/Object", "<init>", "()V"⟩ ∈ aw_tbl := aw_i1 84 rfl rfl
theorem k_147 : Cond.classLink "RescanDesk$Rows" 9 "RescanDesk$Text" ∈ aw_tbl := aw_i1 85 rfl rfl
theorem k_148 : Cond.arrayOver (.object "RescanDesk$Text") ∈ aw_nest := aw_n1 86 rfl rfl
theorem k_149 : Cond.methodLink "RescanDesk$Rows" 17 ⟨"RescanDesk$Text", "<init>", "(I)V"⟩ ∈ aw_tbl := aw_i1 87 rfl rfl
theorem k_150 : Cond.fieldLink "RescanDesk$Rows" 11 "RescanDesk$Rows" "row" "[LRescanDesk$Text;" ∈ aw_tbl := aw_i1 88 rfl rfl
theorem k_151 : Cond.fieldLinkNest "RescanDesk" 92 "RescanDesk$Rows" "row" "[LRescanDesk$Text;" "RescanDesk" ∈ aw_nest := aw_n1 89 rfl rfl
theorem k_152 : Cond.fieldLink "RescanDesk$Rows" 20 "RescanDesk$Rows" "present" "I" ∈ aw_tbl := aw_i1 90 rfl rfl
theorem k_153 : Cond.fieldLinkNest "RescanDesk" 112 "RescanDesk$Rows" "present" "I" "RescanDesk" ∈ aw_nest := aw_n1 91 rfl rfl
theorem k_154 : Cond.fieldLinkNest "RescanDesk$Expander" 183 "RescanDesk$Rows" "present" "I" "RescanDesk" ∈ aw_nest := aw_n1 92 rfl rfl
theorem k_160 : Cond.classLink "RescanDesk" 32 "RescanDesk$Table" ∈ aw_tbl := aw_i1 98 rfl rfl
theorem k_161 : Cond.instantiable "RescanDesk$Table" 2 ∈ aw_tbl := aw_i1 99 rfl rfl
theorem k_162 : Cond.methodLink "RescanDesk" 34 ⟨"RescanDesk$Table", "<init>", "()V"⟩ ∈ aw_tbl := aw_i1 100 rfl rfl
theorem k_163 : Cond.instanceMethod ⟨"RescanDesk$Table", "<init>", "()V"⟩ ∈ aw_tbl := aw_i1 101 rfl rfl
theorem k_164 : Cond.code ⟨"RescanDesk$Table", "<init>", "()V"⟩ prog_11_method_1_code 2 none ∈ aw_tbl := aw_i1 102 rfl rfl
theorem k_165 : Cond.methodLink "RescanDesk$Table" 3 ⟨"java/lang/Object", "<init>", "()V"⟩ ∈ aw_tbl := aw_i1 103 rfl rfl
theorem k_166 : Cond.classLink "RescanDesk$Table" 9 "RescanDesk$Definition" ∈ aw_tbl := aw_i1 104 rfl rfl
theorem k_167 : Cond.arrayOver (.object "RescanDesk$Definition") ∈ aw_nest := aw_n1 105 rfl rfl
theorem k_168 : Cond.instantiable "RescanDesk$Definition" 3 ∈ aw_tbl := aw_i1 106 rfl rfl
theorem k_169 : Cond.methodLink "RescanDesk$Table" 17 ⟨"RescanDesk$Definition", "<init>", "()V"⟩ ∈ aw_tbl := aw_i1 107 rfl rfl
theorem k_170 : Cond.instanceMethod ⟨"RescanDesk$Definition", "<init>", "()V"⟩ ∈ aw_tbl := aw_i1 108 rfl rfl
theorem k_171 : Cond.code ⟨"RescanDesk$Definition", "<init>", "()V"⟩ prog_6_method_1_code 1 none ∈ aw_tbl := aw_i1 109 rfl rfl
theorem k_172 : Cond.methodLink "RescanDesk$Definition" 3 ⟨"java/lang/Object", "<init>", "()V"⟩ ∈ aw_tbl := aw_i1 110 rfl rfl
theorem k_173 : Cond.classLink "RescanDesk$Definition" 9 "RescanDesk$Text" ∈ aw_tbl := aw_i1 111 rfl rfl
theorem k_174 : Cond.methodLink "RescanDesk$Definition" 11 ⟨"RescanDesk$Text", "<init>", "(I)V"⟩ ∈ aw_tbl := aw_i1 112 rfl rfl
theorem k_175 : Cond.fieldLink "RescanDesk$Definition" 14 "RescanDesk$Definition" "name" "LRescanDesk$Text;" ∈ aw_tbl := aw_i1 113 rfl rfl
theorem k_176 : Cond.fieldLinkNest "RescanDesk$Table" 32 "RescanDesk$Definition" "name" "LRescanDesk$Text;" "RescanDesk" ∈ aw_nest := aw_n1 114 rfl rfl
theorem k_177 : Cond.fieldLinkNest "RescanDesk$Expander" 91 "RescanDesk$Definition" "name" "LRescanDesk$Text;" "RescanDesk" ∈ aw_nest := aw_n1 115 rfl rfl
theorem k_178 : Cond.fieldLink "RescanDesk$Definition" 20 "RescanDesk$Definition" "body" "LRescanDesk$Text;" ∈ aw_tbl := aw_i1 116 rfl rfl
theorem k_179 : Cond.fieldLinkNest "RescanDesk$Expander" 72 "RescanDesk$Definition" "body" "LRescanDesk$Text;" "RescanDesk" ∈ aw_nest := aw_n1 117 rfl rfl
theorem k_180 : Cond.fieldLink "RescanDesk$Definition" 23 "RescanDesk$Definition" "builtIn" "LRescanDesk$BuiltIn;" ∈ aw_tbl := aw_i1 118 rfl rfl
theorem k_181 : Cond.fieldLinkNest "RescanDesk$Expander" 48 "RescanDesk$Definition" "builtIn" "LRescanDesk$BuiltIn;" "RescanDesk" ∈ aw_nest := aw_n1 119 rfl rfl
theorem k_189 : Cond.fieldLinkNest "RescanDesk$Table" 22 "RescanDesk$BuiltIn" "ALL" "[LRescanDesk$BuiltIn;" "RescanDesk" ∈ aw_nest := aw_n1 127 rfl rfl
theorem k_191 : Cond.methodLink "RescanDesk$Table" 28 ⟨"RescanDesk$Definition", "setBuiltIn", "(LRescanDesk$BuiltIn;)V"⟩ ∈ aw_tbl := aw_i1 129 rfl rfl
theorem k_192 : Cond.instanceMethod ⟨"RescanDesk$Definition", "setBuiltIn", "(LRescanDesk$BuiltIn;)V"⟩ ∈ aw_tbl := aw_i1 130 rfl rfl
theorem k_193 : Cond.selects "RescanDesk$Definition" ⟨"RescanDesk$Definition", "setBuiltIn", "(LRescanDesk$BuiltIn;)V"⟩ ⟨"RescanDesk$Definition", "setBuiltIn", "(LRescanDesk$BuiltIn;)V"⟩ ∈ aw_tbl := aw_i1 131 rfl rfl
theorem k_194 : Cond.code ⟨"RescanDesk$Definition", "setBuiltIn", "(LRescanDesk$BuiltIn;)V"⟩ prog_6_method_2_code 3 none ∈ aw_tbl := aw_i1 132 rfl rfl
theorem k_195 : Cond.methodLink "RescanDesk$Definition" 27 ⟨"RescanDesk$Text", "empty", "()V"⟩ ∈ aw_tbl := aw_i1 133 rfl rfl
theorem k_196 : Cond.instanceMethod ⟨"RescanDesk$Text", "empty", "()V"⟩ ∈ aw_tbl := aw_i1 134 rfl rfl
theorem k_197 : Cond.selects "RescanDesk$Text" ⟨"RescanDesk$Text", "empty", "()V"⟩ ⟨"RescanDesk$Text", "empty", "()V"⟩ ∈ aw_tbl := aw_i1 135 rfl rfl
theorem k_198 : Cond.code ⟨"RescanDesk$Text", "empty", "()V"⟩ prog_12_method_2_code 1 none ∈ aw_tbl := aw_i1 136 rfl rfl
theorem k_199 : Cond.methodLink "RescanDesk$Definition" 36 ⟨"java/lang/String", "length", "()I"⟩ ∈ aw_tbl := aw_i1 137 rfl rfl
theorem k_200 : Cond.instanceMethod ⟨"java/lang/String", "length", "()I"⟩ ∈ aw_tbl := aw_i1 138 rfl rfl
theorem k_201 : Cond.selects "java/lang/String" ⟨"java/lang/String", "length", "()I"⟩ ⟨"java/lang/String", "length", "()I"⟩ ∈ aw_tbl := aw_i1 139 rfl rfl
theorem k_202 : Cond.code ⟨"java/lang/String", "length", "()I"⟩ prog_21_method_54_code 1 (some .int) ∈ aw_tbl := aw_i1 140 rfl rfl
theorem k_203 : Cond.methodLink "java/lang/String" 335 ⟨"java/lang/String", "coder", "()B"⟩ ∈ aw_tbl := aw_i1 141 rfl rfl
theorem k_204 : Cond.instanceMethod ⟨"java/lang/String", "coder", "()B"⟩ ∈ aw_tbl := aw_i1 142 rfl rfl
theorem k_205 : Cond.selects "java/lang/String" ⟨"java/lang/String", "coder", "()B"⟩ ⟨"java/lang/String", "coder", "()B"⟩ ∈ aw_tbl := aw_i1 143 rfl rfl
theorem k_206 : Cond.code ⟨"java/lang/String", "coder", "()B"⟩ prog_21_method_152_code 1 (some .byte) ∈ aw_tbl := aw_i1 144 rfl rfl
theorem k_207 : Cond.fieldLink "java/lang/String" 38 "java/lang/String" "COMPACT_STRINGS" "Z" ∈ aw_tbl := aw_i1 145 rfl rfl
theorem k_209 : Cond.methodLink "RescanDesk$Definition" 42 ⟨"java/lang/String", "charAt", "(I)C"⟩ ∈ aw_tbl := aw_i1 147 rfl rfl
theorem k_210 : Cond.instanceMethod ⟨"java/lang/String", "charAt", "(I)C"⟩ ∈ aw_tbl := aw_i1 148 rfl rfl
theorem k_211 : Cond.selects "java/lang/String" ⟨"java/lang/String", "charAt", "(I)C"⟩ ⟨"java/lang/String", "charAt", "(I)C"⟩ ∈ aw_tbl := aw_i1 149 rfl rfl
theorem k_212 : Cond.code ⟨"java/lang/String", "charAt", "(I)C"⟩ prog_21_method_56_code 2 (some .char) ∈ aw_tbl := aw_i1 150 rfl rfl
theorem k_213 : Cond.methodLink "java/lang/String" 492 ⟨"java/lang/String", "isLatin1", "()Z"⟩ ∈ aw_tbl := aw_i1 151 rfl rfl
theorem k_214 : Cond.instanceMethod ⟨"java/lang/String", "isLatin1", "()Z"⟩ ∈ aw_tbl := aw_i1 152 rfl rfl
theorem k_215 : Cond.selects "java/lang/String" ⟨"java/lang/String", "isLatin1", "()Z"⟩ ⟨"java/lang/String", "isLatin1", "()Z"⟩ ∈ aw_tbl := aw_i1 153 rfl rfl
theorem k_216 : Cond.code ⟨"java/lang/String", "isLatin1", "()Z"⟩ prog_21_method_154_code 1 (some .boolean) ∈ aw_tbl := aw_i1 154 rfl rfl
theorem k_217 : Cond.methodLink "java/lang/String" 495 ⟨"java/lang/StringLatin1", "charAt", "([BI)C"⟩ ∈ aw_tbl := aw_i1 155 rfl rfl
theorem k_218 : Cond.static ⟨"java/lang/StringLatin1", "charAt", "([BI)C"⟩ ∈ aw_tbl := aw_i1 156 rfl rfl
theorem k_219 : Cond.code ⟨"java/lang/StringLatin1", "charAt", "([BI)C"⟩ prog_22_method_2_code 2 (some .char) ∈ aw_tbl := aw_i1 157 rfl rfl
theorem k_220 : Cond.methodLink "java/lang/StringLatin1" 9 ⟨"java/lang/String", "checkIndex", "(II)V"⟩ ∈ aw_tbl := aw_i1 158 rfl rfl
theorem k_221 : Cond.static ⟨"java/lang/String", "checkIndex", "(II)V"⟩ ∈ aw_tbl := aw_i1 159 rfl rfl
theorem k_222 : Cond.code ⟨"java/lang/String", "checkIndex", "(II)V"⟩ prog_21_method_155_code 2 none ∈ aw_tbl := aw_i1 160 rfl rfl
theorem k_223 : Cond.fieldLink "java/lang/String" 1053 "jdk/internal/util/Preconditions" "SIOOBE_FORMATTER" "Ljava/util/function/BiFunction;" ∈ aw_tbl := aw_i1 161 rfl rfl
theorem k_225 : Cond.methodLink "java/lang/String" 1059 ⟨"jdk/internal/util/Preconditions", "checkIndex", "(IILjava/util/function/BiFunction;)I"⟩ ∈ aw_tbl := aw_i1 163 rfl rfl
theorem k_226 : Cond.static ⟨"jdk/internal/util/Preconditions", "checkIndex", "(IILjava/util/function/BiFunction;)I"⟩ ∈ aw_tbl := aw_i1 164 rfl rfl
theorem k_227 : Cond.code ⟨"jdk/internal/util/Preconditions", "checkIndex", "(IILjava/util/function/BiFunction;)I"⟩ prog_26_method_11_code 3 (some .int) ∈ aw_tbl := aw_i1 165 rfl rfl
theorem k_228 : Cond.methodLink "java/lang/String" 498 ⟨"java/lang/StringUTF16", "charAt", "([BI)C"⟩ ∈ aw_tbl := aw_i1 166 rfl rfl
theorem k_229 : Cond.static ⟨"java/lang/StringUTF16", "charAt", "([BI)C"⟩ ∈ aw_tbl := aw_i1 167 rfl rfl
theorem k_230 : Cond.code ⟨"java/lang/StringUTF16", "charAt", "([BI)C"⟩ prog_23_method_83_code 2 (some .char) ∈ aw_tbl := aw_i1 168 rfl rfl
theorem k_231 : Cond.methodLink "java/lang/StringUTF16" 67 ⟨"java/lang/StringUTF16", "checkIndex", "(I[B)V"⟩ ∈ aw_tbl := aw_i1 169 rfl rfl
theorem k_232 : Cond.static ⟨"java/lang/StringUTF16", "checkIndex", "(I[B)V"⟩ ∈ aw_tbl := aw_i1 170 rfl rfl
theorem k_233 : Cond.code ⟨"java/lang/StringUTF16", "checkIndex", "(I[B)V"⟩ prog_23_method_91_code 2 none ∈ aw_tbl := aw_i1 171 rfl rfl
theorem k_234 : Cond.methodLink "java/lang/StringUTF16" 48 ⟨"java/lang/StringUTF16", "length", "([B)I"⟩ ∈ aw_tbl := aw_i1 172 rfl rfl
theorem k_235 : Cond.static ⟨"java/lang/StringUTF16", "length", "([B)I"⟩ ∈ aw_tbl := aw_i1 173 rfl rfl
theorem k_236 : Cond.code ⟨"java/lang/StringUTF16", "length", "([B)I"⟩ prog_23_method_6_code 1 (some .int) ∈ aw_tbl := aw_i1 174 rfl rfl
theorem k_237 : Cond.methodLink "java/lang/StringUTF16" 414 ⟨"java/lang/String", "checkIndex", "(II)V"⟩ ∈ aw_tbl := aw_i1 175 rfl rfl
theorem k_238 : Cond.methodLink "java/lang/StringUTF16" 71 ⟨"java/lang/StringUTF16", "getChar", "([BI)C"⟩ ∈ aw_tbl := aw_i1 176 rfl rfl
theorem k_239 : Cond.static ⟨"java/lang/StringUTF16", "getChar", "([BI)C"⟩ ∈ aw_tbl := aw_i1 177 rfl rfl
theorem k_240 : Cond.code ⟨"java/lang/StringUTF16", "getChar", "([BI)C"⟩ prog_23_method_5_code 2 (some .char) ∈ aw_tbl := aw_i1 178 rfl rfl
theorem k_241 : Cond.fieldLink "java/lang/StringUTF16" 44 "java/lang/StringUTF16" "$assertionsDisabled" "Z" ∈ aw_tbl := aw_i1 179 rfl rfl
theorem k_243 : Cond.fieldLink "java/lang/StringUTF16" 59 "java/lang/StringUTF16" "HI_BYTE_SHIFT" "I" ∈ aw_tbl := aw_i1 181 rfl rfl
theorem k_245 : Cond.fieldLink "java/lang/StringUTF16" 63 "java/lang/StringUTF16" "LO_BYTE_SHIFT" "I" ∈ aw_tbl := aw_i1 183 rfl rfl
theorem k_247 : Cond.methodLink "RescanDesk$Definition" 46 ⟨"RescanDesk$Text", "add", "(C)Z"⟩ ∈ aw_tbl := aw_i1 185 rfl rfl
theorem k_248 : Cond.instanceMethod ⟨"RescanDesk$Text", "add", "(C)Z"⟩ ∈ aw_tbl := aw_i1 186 rfl rfl
theorem k_249 : Cond.selects "RescanDesk$Text" ⟨"RescanDesk$Text", "add", "(C)Z"⟩ ⟨"RescanDesk$Text", "add", "(C)Z"⟩ ∈ aw_tbl := aw_i1 187 rfl rfl
theorem k_250 : Cond.code ⟨"RescanDesk$Text", "add", "(C)Z"⟩ prog_12_method_3_code 2 (some .boolean) ∈ aw_tbl := aw_i1 188 rfl rfl
theorem k_251 : Cond.fieldLink "RescanDesk$Table" 11 "RescanDesk$Table" "definitions" "[LRescanDesk$Definition;" ∈ aw_tbl := aw_i1 189 rfl rfl
theorem k_252 : Cond.fieldLinkNest "RescanDesk$Expander" 197 "RescanDesk$Table" "definitions" "[LRescanDesk$Definition;" "RescanDesk" ∈ aw_nest := aw_n1 190 rfl rfl
theorem k_253 : Cond.fieldLinkNest "RescanDesk" 166 "RescanDesk$Table" "definitions" "[LRescanDesk$Definition;" "RescanDesk" ∈ aw_nest := aw_n1 191 rfl rfl
theorem k_254 : Cond.fieldLink "RescanDesk$Table" 18 "RescanDesk$Table" "size" "I" ∈ aw_tbl := aw_i1 192 rfl rfl
theorem k_255 : Cond.fieldLinkNest "RescanDesk" 103 "RescanDesk$Table" "size" "I" "RescanDesk" ∈ aw_nest := aw_n1 193 rfl rfl
theorem k_261 : Cond.classLink "RescanDesk" 39 "RescanDesk$Calls" ∈ aw_tbl := aw_i1 199 rfl rfl
theorem k_262 : Cond.instantiable "RescanDesk$Calls" 5 ∈ aw_tbl := aw_i1 200 rfl rfl
theorem k_263 : Cond.methodLink "RescanDesk" 41 ⟨"RescanDesk$Calls", "<init>", "()V"⟩ ∈ aw_tbl := aw_i1 201 rfl rfl
theorem k_264 : Cond.instanceMethod ⟨"RescanDesk$Calls", "<init>", "()V"⟩ ∈ aw_tbl := aw_i1 202 rfl rfl
theorem k_265 : Cond.code ⟨"RescanDesk$Calls", "<init>", "()V"⟩ prog_5_method_1_code 2 none ∈ aw_tbl := aw_i1 203 rfl rfl
theorem k_266 : Cond.methodLink "RescanDesk$Calls" 3 ⟨"java/lang/Object", "<init>", "()V"⟩ ∈ aw_tbl := aw_i1 204 rfl rfl
theorem k_267 : Cond.classLink "RescanDesk$Calls" 9 "RescanDesk$Text" ∈ aw_tbl := aw_i1 205 rfl rfl
theorem k_268 : Cond.methodLink "RescanDesk$Calls" 11 ⟨"RescanDesk$Text", "<init>", "(I)V"⟩ ∈ aw_tbl := aw_i1 206 rfl rfl
theorem k_269 : Cond.classLink "RescanDesk$Calls" 20 "RescanDesk$Call" ∈ aw_tbl := aw_i1 207 rfl rfl
theorem k_270 : Cond.arrayOver (.object "RescanDesk$Call") ∈ aw_nest := aw_n1 208 rfl rfl
theorem k_271 : Cond.instantiable "RescanDesk$Call" 6 ∈ aw_tbl := aw_i1 209 rfl rfl
theorem k_272 : Cond.methodLink "RescanDesk$Calls" 30 ⟨"RescanDesk$Call", "<init>", "([C)V"⟩ ∈ aw_tbl := aw_i1 210 rfl rfl
theorem k_273 : Cond.instanceMethod ⟨"RescanDesk$Call", "<init>", "([C)V"⟩ ∈ aw_tbl := aw_i1 211 rfl rfl
theorem k_274 : Cond.code ⟨"RescanDesk$Call", "<init>", "([C)V"⟩ prog_4_method_1_code 2 none ∈ aw_tbl := aw_i1 212 rfl rfl
theorem k_275 : Cond.methodLink "RescanDesk$Call" 3 ⟨"java/lang/Object", "<init>", "()V"⟩ ∈ aw_tbl := aw_i1 213 rfl rfl
theorem k_276 : Cond.classLink "RescanDesk$Call" 9 "RescanDesk$Definition" ∈ aw_tbl := aw_i1 214 rfl rfl
theorem k_277 : Cond.methodLink "RescanDesk$Call" 11 ⟨"RescanDesk$Definition", "<init>", "()V"⟩ ∈ aw_tbl := aw_i1 215 rfl rfl
theorem k_278 : Cond.fieldLink "RescanDesk$Call" 12 "RescanDesk$Call" "definition" "LRescanDesk$Definition;" ∈ aw_tbl := aw_i1 216 rfl rfl
theorem k_279 : Cond.fieldLinkNest "RescanDesk$Expander" 42 "RescanDesk$Call" "definition" "LRescanDesk$Definition;" "RescanDesk" ∈ aw_nest := aw_n1 217 rfl rfl
theorem k_280 : Cond.fieldLinkNest "RescanDesk$Calls" 51 "RescanDesk$Call" "definition" "LRescanDesk$Definition;" "RescanDesk" ∈ aw_nest := aw_n1 218 rfl rfl
theorem k_281 : Cond.fieldLink "RescanDesk$Call" 18 "RescanDesk$Call" "chars" "[C" ∈ aw_tbl := aw_i1 219 rfl rfl
theorem k_282 : Cond.fieldLinkNest "RescanDesk$Expander" 116 "RescanDesk$Call" "chars" "[C" "RescanDesk" ∈ aw_nest := aw_n1 220 rfl rfl
theorem k_283 : Cond.fieldLink "RescanDesk$Call" 22 "RescanDesk$Call" "starts" "[I" ∈ aw_tbl := aw_i1 221 rfl rfl
theorem k_284 : Cond.fieldLinkNest "RescanDesk$Calls" 61 "RescanDesk$Call" "starts" "[I" "RescanDesk" ∈ aw_nest := aw_n1 222 rfl rfl
theorem k_285 : Cond.fieldLink "RescanDesk$Call" 26 "RescanDesk$Call" "arguments" "I" ∈ aw_tbl := aw_i1 223 rfl rfl
theorem k_286 : Cond.fieldLinkNest "RescanDesk$Expander" 105 "RescanDesk$Call" "arguments" "I" "RescanDesk" ∈ aw_nest := aw_n1 224 rfl rfl
theorem k_287 : Cond.fieldLinkNest "RescanDesk$Calls" 68 "RescanDesk$Call" "arguments" "I" "RescanDesk" ∈ aw_nest := aw_n1 225 rfl rfl
theorem k_288 : Cond.fieldLink "RescanDesk$Call" 30 "RescanDesk$Call" "depth" "I" ∈ aw_tbl := aw_i1 226 rfl rfl
theorem k_289 : Cond.fieldLinkNest "RescanDesk$Calls" 71 "RescanDesk$Call" "depth" "I" "RescanDesk" ∈ aw_nest := aw_n1 227 rfl rfl
theorem k_290 : Cond.fieldLinkNest "RescanDesk" 177 "RescanDesk$Call" "depth" "I" "RescanDesk" ∈ aw_nest := aw_n1 228 rfl rfl
theorem k_291 : Cond.fieldLink "RescanDesk$Call" 33 "RescanDesk$Call" "begun" "Z" ∈ aw_tbl := aw_i1 229 rfl rfl
theorem k_292 : Cond.fieldLinkNest "RescanDesk$Calls" 47 "RescanDesk$Call" "begun" "Z" "RescanDesk" ∈ aw_nest := aw_n1 230 rfl rfl
theorem k_293 : Cond.fieldLinkNest "RescanDesk" 192 "RescanDesk$Call" "begun" "Z" "RescanDesk" ∈ aw_nest := aw_n1 231 rfl rfl
theorem k_307 : Cond.arrayClass .int ∈ aw_tbl := aw_i2 5 rfl rfl
theorem k_308 : Cond.fieldLink "RescanDesk$Calls" 14 "RescanDesk$Calls" "gathered" "LRescanDesk$Text;" ∈ aw_tbl := aw_i2 6 rfl rfl
theorem k_309 : Cond.fieldLinkNest "RescanDesk" 196 "RescanDesk$Calls" "gathered" "LRescanDesk$Text;" "RescanDesk" ∈ aw_nest := aw_n2 7 rfl rfl
theorem k_310 : Cond.fieldLink "RescanDesk$Calls" 22 "RescanDesk$Calls" "stack" "[LRescanDesk$Call;" ∈ aw_tbl := aw_i2 8 rfl rfl
theorem k_311 : Cond.fieldLink "RescanDesk$Calls" 33 "RescanDesk$Calls" "bare" "LRescanDesk$Call;" ∈ aw_tbl := aw_i2 9 rfl rfl
theorem k_312 : Cond.fieldLink "RescanDesk$Calls" 37 "RescanDesk$Calls" "open" "I" ∈ aw_tbl := aw_i2 10 rfl rfl
theorem k_313 : Cond.fieldLinkNest "RescanDesk" 121 "RescanDesk$Calls" "open" "I" "RescanDesk" ∈ aw_nest := aw_n2 11 rfl rfl
theorem k_314 : Cond.fieldLink "RescanDesk$Calls" 41 "RescanDesk$Calls" "most" "I" ∈ aw_tbl := aw_i2 12 rfl rfl
theorem k_315 : Cond.fieldLinkNest "RescanDesk" 109 "RescanDesk$Calls" "most" "I" "RescanDesk" ∈ aw_nest := aw_n2 13 rfl rfl
theorem k_327 : Cond.classLink "RescanDesk" 46 "RescanDesk$Expander" ∈ aw_tbl := aw_i2 25 rfl rfl
theorem k_328 : Cond.instantiable "RescanDesk$Expander" 5 ∈ aw_tbl := aw_i2 26 rfl rfl
theorem k_329 : Cond.methodLink "RescanDesk" 48 ⟨"RescanDesk$Expander", "<init>", "(LRescanDesk$Front;LRescanDesk$Rows;LRescanDesk$Table;)V"⟩ ∈ aw_tbl := aw_i2 27 rfl rfl
theorem k_330 : Cond.instanceMethod ⟨"RescanDesk$Expander", "<init>", "(LRescanDesk$Front;LRescanDesk$Rows;LRescanDesk$Table;)V"⟩ ∈ aw_tbl := aw_i2 28 rfl rfl
theorem k_331 : Cond.code ⟨"RescanDesk$Expander", "<init>", "(LRescanDesk$Front;LRescanDesk$Rows;LRescanDesk$Table;)V"⟩ prog_7_method_1_code 4 none ∈ aw_tbl := aw_i2 29 rfl rfl
theorem k_332 : Cond.methodLink "RescanDesk$Expander" 3 ⟨"java/lang/Object", "<init>", "()V"⟩ ∈ aw_tbl := aw_i2 30 rfl rfl
theorem k_333 : Cond.classLink "RescanDesk$Expander" 23 "RescanDesk$Expression" ∈ aw_tbl := aw_i2 31 rfl rfl
theorem k_334 : Cond.instantiable "RescanDesk$Expression" 4 ∈ aw_tbl := aw_i2 32 rfl rfl
theorem k_335 : Cond.methodLink "RescanDesk$Expander" 25 ⟨"RescanDesk$Expression", "<init>", "()V"⟩ ∈ aw_tbl := aw_i2 33 rfl rfl
theorem k_336 : Cond.instanceMethod ⟨"RescanDesk$Expression", "<init>", "()V"⟩ ∈ aw_tbl := aw_i2 34 rfl rfl
theorem k_337 : Cond.code ⟨"RescanDesk$Expression", "<init>", "()V"⟩ prog_8_method_1_code 1 none ∈ aw_tbl := aw_i2 35 rfl rfl
theorem k_338 : Cond.methodLink "RescanDesk$Expression" 3 ⟨"java/lang/Object", "<init>", "()V"⟩ ∈ aw_tbl := aw_i2 36 rfl rfl
theorem k_339 : Cond.classLink "RescanDesk$Expression" 9 "RescanDesk$Text" ∈ aw_tbl := aw_i2 37 rfl rfl
theorem k_340 : Cond.methodLink "RescanDesk$Expression" 11 ⟨"RescanDesk$Text", "<init>", "(I)V"⟩ ∈ aw_tbl := aw_i2 38 rfl rfl
theorem k_341 : Cond.fieldLink "RescanDesk$Expression" 14 "RescanDesk$Expression" "signs" "LRescanDesk$Text;" ∈ aw_tbl := aw_i2 39 rfl rfl
theorem k_342 : Cond.fieldLink "RescanDesk$Expression" 20 "RescanDesk$Expression" "at" "I" ∈ aw_tbl := aw_i2 40 rfl rfl
theorem k_343 : Cond.fieldLink "RescanDesk$Expression" 24 "RescanDesk$Expression" "wrong" "Z" ∈ aw_tbl := aw_i2 41 rfl rfl
theorem k_344 : Cond.fieldLink "RescanDesk$Expression" 28 "RescanDesk$Expression" "byZero" "Z" ∈ aw_tbl := aw_i2 42 rfl rfl
theorem k_354 : Cond.classLink "RescanDesk$Expander" 30 "RescanDesk$Text" ∈ aw_tbl := aw_i2 52 rfl rfl
theorem k_355 : Cond.methodLink "RescanDesk$Expander" 32 ⟨"RescanDesk$Text", "<init>", "(I)V"⟩ ∈ aw_tbl := aw_i2 53 rfl rfl
theorem k_356 : Cond.fieldLink "RescanDesk$Expander" 9 "RescanDesk$Expander" "front" "LRescanDesk$Front;" ∈ aw_tbl := aw_i2 54 rfl rfl
theorem k_357 : Cond.fieldLink "RescanDesk$Expander" 15 "RescanDesk$Expander" "rows" "LRescanDesk$Rows;" ∈ aw_tbl := aw_i2 55 rfl rfl
theorem k_358 : Cond.fieldLink "RescanDesk$Expander" 19 "RescanDesk$Expander" "table" "LRescanDesk$Table;" ∈ aw_tbl := aw_i2 56 rfl rfl
theorem k_359 : Cond.fieldLink "RescanDesk$Expander" 26 "RescanDesk$Expander" "expression" "LRescanDesk$Expression;" ∈ aw_tbl := aw_i2 57 rfl rfl
theorem k_360 : Cond.fieldLink "RescanDesk$Expander" 35 "RescanDesk$Expander" "made" "LRescanDesk$Text;" ∈ aw_tbl := aw_i2 58 rfl rfl
theorem k_372 : Cond.fieldLink "RescanDesk" 14 "RescanDesk" "text" "LRescanDesk$Text;" ∈ aw_tbl := aw_i2 70 rfl rfl
theorem k_373 : Cond.fieldLink "RescanDesk" 21 "RescanDesk" "front" "LRescanDesk$Front;" ∈ aw_tbl := aw_i2 71 rfl rfl
theorem k_374 : Cond.fieldLink "RescanDesk" 28 "RescanDesk" "rows" "LRescanDesk$Rows;" ∈ aw_tbl := aw_i2 72 rfl rfl
theorem k_375 : Cond.fieldLink "RescanDesk" 35 "RescanDesk" "table" "LRescanDesk$Table;" ∈ aw_tbl := aw_i2 73 rfl rfl
theorem k_376 : Cond.fieldLink "RescanDesk" 42 "RescanDesk" "calls" "LRescanDesk$Calls;" ∈ aw_tbl := aw_i2 74 rfl rfl
theorem k_377 : Cond.fieldLink "RescanDesk" 51 "RescanDesk" "expander" "LRescanDesk$Expander;" ∈ aw_tbl := aw_i2 75 rfl rfl
theorem k_378 : Cond.fieldLink "RescanDesk" 55 "RescanDesk" "ready" "LRescanDesk$Call;" ∈ aw_tbl := aw_i2 76 rfl rfl
theorem k_379 : Cond.fieldLink "RescanDesk" 59 "RescanDesk" "steps" "I" ∈ aw_tbl := aw_i2 77 rfl rfl
theorem k_397 : Cond.methodLink "RescanDeskLaw" 25 ⟨"RescanDesk", "type", "(C)Z"⟩ ∈ aw_tbl := aw_i2 95 rfl rfl
theorem k_398 : Cond.instanceMethod ⟨"RescanDesk", "type", "(C)Z"⟩ ∈ aw_tbl := aw_i2 96 rfl rfl
theorem k_399 : Cond.selects "RescanDesk" ⟨"RescanDesk", "type", "(C)Z"⟩ ⟨"RescanDesk", "type", "(C)Z"⟩ ∈ aw_tbl := aw_i2 97 rfl rfl
theorem k_400 : Cond.code ⟨"RescanDesk", "type", "(C)Z"⟩ prog_1_method_2_code 2 (some .boolean) ∈ aw_tbl := aw_i2 98 rfl rfl
theorem k_401 : Cond.methodLink "RescanDesk" 63 ⟨"RescanDesk$Text", "add", "(C)Z"⟩ ∈ aw_tbl := aw_i2 99 rfl rfl
theorem k_402 : Cond.methodLink "RescanDeskLaw" 30 ⟨"RescanDesk", "clear", "()I"⟩ ∈ aw_tbl := aw_i2 100 rfl rfl
theorem k_403 : Cond.instanceMethod ⟨"RescanDesk", "clear", "()I"⟩ ∈ aw_tbl := aw_i2 101 rfl rfl
theorem k_404 : Cond.selects "RescanDesk" ⟨"RescanDesk", "clear", "()I"⟩ ⟨"RescanDesk", "clear", "()I"⟩ ∈ aw_tbl := aw_i2 102 rfl rfl
theorem k_405 : Cond.code ⟨"RescanDesk", "clear", "()I"⟩ prog_1_method_3_code 2 (some .int) ∈ aw_tbl := aw_i2 103 rfl rfl
theorem k_406 : Cond.methodLink "RescanDesk" 70 ⟨"RescanDesk$Text", "empty", "()V"⟩ ∈ aw_tbl := aw_i2 104 rfl rfl
theorem k_407 : Cond.methodLink "RescanDeskLaw" 48 ⟨"RescanDesk", "count", "(I)I"⟩ ∈ aw_tbl := aw_i2 105 rfl rfl
theorem k_408 : Cond.instanceMethod ⟨"RescanDesk", "count", "(I)I"⟩ ∈ aw_tbl := aw_i2 106 rfl rfl
theorem k_409 : Cond.selects "RescanDesk" ⟨"RescanDesk", "count", "(I)I"⟩ ⟨"RescanDesk", "count", "(I)I"⟩ ∈ aw_tbl := aw_i2 107 rfl rfl
theorem k_410 : Cond.code ⟨"RescanDesk", "count", "(I)I"⟩ prog_1_method_6_code 2 (some .int) ∈ aw_tbl := aw_i2 108 rfl rfl
theorem k_411 : Cond.methodLink "RescanDesk" 106 ⟨"RescanDesk$Table", "macros", "()I"⟩ ∈ aw_tbl := aw_i2 109 rfl rfl
theorem k_412 : Cond.instanceMethod ⟨"RescanDesk$Table", "macros", "()I"⟩ ∈ aw_tbl := aw_i2 110 rfl rfl
theorem k_413 : Cond.selects "RescanDesk$Table" ⟨"RescanDesk$Table", "macros", "()I"⟩ ⟨"RescanDesk$Table", "macros", "()I"⟩ ∈ aw_tbl := aw_i2 111 rfl rfl
theorem k_414 : Cond.code ⟨"RescanDesk$Table", "macros", "()I"⟩ prog_11_method_3_code 4 (some .int) ∈ aw_tbl := aw_i2 112 rfl rfl
theorem k_415 : Cond.methodLink "RescanDesk$Table" 49 ⟨"RescanDesk$Table", "topmost", "([CII)I"⟩ ∈ aw_tbl := aw_i2 113 rfl rfl
theorem k_416 : Cond.instanceMethod ⟨"RescanDesk$Table", "topmost", "([CII)I"⟩ ∈ aw_tbl := aw_i2 114 rfl rfl
theorem k_417 : Cond.selects "RescanDesk$Table" ⟨"RescanDesk$Table", "topmost", "([CII)I"⟩ ⟨"RescanDesk$Table", "topmost", "([CII)I"⟩ ∈ aw_tbl := aw_i2 115 rfl rfl
theorem k_418 : Cond.code ⟨"RescanDesk$Table", "topmost", "([CII)I"⟩ prog_11_method_2_code 5 (some .int) ∈ aw_tbl := aw_i2 116 rfl rfl
theorem k_419 : Cond.methodLink "RescanDesk$Table" 36 ⟨"RescanDesk$Text", "isSame", "([CII)Z"⟩ ∈ aw_tbl := aw_i2 117 rfl rfl
theorem k_420 : Cond.instanceMethod ⟨"RescanDesk$Text", "isSame", "([CII)Z"⟩ ∈ aw_tbl := aw_i2 118 rfl rfl
theorem k_421 : Cond.selects "RescanDesk$Text" ⟨"RescanDesk$Text", "isSame", "([CII)Z"⟩ ⟨"RescanDesk$Text", "isSame", "([CII)Z"⟩ ∈ aw_tbl := aw_i2 119 rfl rfl
theorem k_422 : Cond.code ⟨"RescanDesk$Text", "isSame", "([CII)Z"⟩ prog_12_method_8_code 5 (some .boolean) ∈ aw_tbl := aw_i2 120 rfl rfl
theorem k_423 : Cond.methodLink "RescanDesk" 79 ⟨"RescanDesk$Front", "length", "()I"⟩ ∈ aw_tbl := aw_i2 121 rfl rfl
theorem k_424 : Cond.instanceMethod ⟨"RescanDesk$Front", "length", "()I"⟩ ∈ aw_tbl := aw_i2 122 rfl rfl
theorem k_425 : Cond.selects "RescanDesk$Front" ⟨"RescanDesk$Front", "length", "()I"⟩ ⟨"RescanDesk$Front", "length", "()I"⟩ ∈ aw_tbl := aw_i2 123 rfl rfl
theorem k_426 : Cond.code ⟨"RescanDesk$Front", "length", "()I"⟩ prog_9_method_2_code 1 (some .int) ∈ aw_tbl := aw_i2 124 rfl rfl
theorem k_427 : Cond.methodLink "RescanDeskLaw" 35 ⟨"RescanDeskLaw", "run", "(LRescanDesk;I[J)I"⟩ ∈ aw_tbl := aw_i2 125 rfl rfl
theorem k_428 : Cond.static ⟨"RescanDeskLaw", "run", "(LRescanDesk;I[J)I"⟩ ∈ aw_tbl := aw_i2 126 rfl rfl
theorem k_430 : Cond.classLink "RescanDeskLaw" 13 "java/lang/IllegalArgumentException" ∈ aw_tbl := aw_i2 128 rfl rfl
theorem k_431 : Cond.methodLink "RescanDeskLaw" 7 ⟨"RescanDesk", "run", "(I)I"⟩ ∈ aw_tbl := aw_i2 129 rfl rfl
theorem k_432 : Cond.instanceMethod ⟨"RescanDesk", "run", "(I)I"⟩ ∈ aw_tbl := aw_i2 130 rfl rfl
theorem k_433 : Cond.selects "RescanDesk" ⟨"RescanDesk", "run", "(I)I"⟩ ⟨"RescanDesk", "run", "(I)I"⟩ ∈ aw_tbl := aw_i2 131 rfl rfl
theorem k_434 : Cond.code ⟨"RescanDesk", "run", "(I)I"⟩ prog_1_method_4_code 3 (some .int) ∈ aw_tbl := aw_i2 132 rfl rfl
theorem k_435 : Cond.classLink "RescanDesk" 73 "java/lang/IllegalArgumentException" ∈ aw_tbl := aw_i2 133 rfl rfl
theorem k_436 : Cond.instantiable "java/lang/IllegalArgumentException" 6 ∈ aw_tbl := aw_i2 134 rfl rfl
theorem k_444 : Cond.selects "java/lang/IllegalArgumentException" ⟨"java/lang/Throwable", "fillInStackTrace", "(I)Ljava/lang/Throwable;"⟩ ⟨"java/lang/Throwable", "fillInStackTrace", "(I)Ljava/lang/Throwable;"⟩ ∈ aw_tbl := aw_i2 142 rfl rfl
theorem k_445 : Cond.selects "java/lang/IllegalArgumentException" ⟨"java/lang/Throwable", "fillInStackTrace", "()Ljava/lang/Throwable;"⟩ ⟨"java/lang/Throwable", "fillInStackTrace", "()Ljava/lang/Throwable;"⟩ ∈ aw_tbl := aw_i2 143 rfl rfl
theorem k_456 : Cond.fieldLink "java/lang/Throwable" 198 "java/lang/Throwable" "backtrace" "Ljava/lang/Object;" ∈ aw_tbl := aw_i2 154 rfl rfl
theorem k_458 : Cond.instanceMethod ⟨"java/lang/Throwable", "<init>", "()V"⟩ ∈ aw_tbl := aw_i2 156 rfl rfl
theorem k_459 : Cond.code ⟨"java/lang/Throwable", "<init>", "()V"⟩ prog_25_method_1_code 1 none ∈ aw_tbl := aw_i2 157 rfl rfl
theorem k_460 : Cond.methodLink "java/lang/Throwable" 1 ⟨"java/lang/Object", "<init>", "()V"⟩ ∈ aw_tbl := aw_i2 158 rfl rfl
theorem k_461 : Cond.fieldLink "java/lang/Throwable" 13 "java/lang/Throwable" "UNASSIGNED_STACK" "[Ljava/lang/StackTraceElement;" ∈ aw_tbl := aw_i2 159 rfl rfl
theorem k_463 : Cond.fieldLink "java/lang/Throwable" 20 "java/lang/Throwable" "SUPPRESSED_SENTINEL" "Ljava/util/List;" ∈ aw_tbl := aw_i2 161 rfl rfl
theorem k_465 : Cond.methodLink "java/lang/Throwable" 27 ⟨"java/lang/Throwable", "fillInStackTrace", "()Ljava/lang/Throwable;"⟩ ∈ aw_tbl := aw_i2 163 rfl rfl
theorem k_466 : Cond.instanceMethod ⟨"java/lang/Throwable", "fillInStackTrace", "()Ljava/lang/Throwable;"⟩ ∈ aw_tbl := aw_i2 164 rfl rfl
theorem k_467 : Cond.sameMethod "java/lang/Throwable" "java/lang/Throwable" "fillInStackTrace" "()Ljava/lang/Throwable;" ∈ aw_tbl := aw_i2 165 rfl rfl
theorem k_468 : Cond.selects "java/lang/IndexOutOfBoundsException" ⟨"java/lang/Throwable", "fillInStackTrace", "()Ljava/lang/Throwable;"⟩ ⟨"java/lang/Throwable", "fillInStackTrace", "()Ljava/lang/Throwable;"⟩ ∈ aw_tbl := aw_i2 166 rfl rfl
theorem k_470 : Cond.methodLink "java/lang/Throwable" 202 ⟨"java/lang/Throwable", "fillInStackTrace", "(I)Ljava/lang/Throwable;"⟩ ∈ aw_tbl := aw_i2 168 rfl rfl
theorem k_472 : Cond.instanceMethod ⟨"java/lang/Throwable", "fillInStackTrace", "(I)Ljava/lang/Throwable;"⟩ ∈ aw_tbl := aw_i2 170 rfl rfl
theorem k_473 : Cond.instantiable "java/lang/Throwable" 6 ∈ aw_tbl := aw_i2 171 rfl rfl
theorem k_474 : Cond.native ⟨"java/lang/Throwable", "fillInStackTrace", "(I)Ljava/lang/Throwable;"⟩ ∈ aw_tbl := aw_i2 172 rfl rfl
theorem k_475 : Cond.methodLink "RescanDesk" 75 ⟨"java/lang/IllegalArgumentException", "<init>", "()V"⟩ ∈ aw_tbl := aw_i2 173 rfl rfl
theorem k_476 : Cond.instanceMethod ⟨"java/lang/IllegalArgumentException", "<init>", "()V"⟩ ∈ aw_tbl := aw_i2 174 rfl rfl
theorem k_477 : Cond.code ⟨"java/lang/IllegalArgumentException", "<init>", "()V"⟩ prog_17_method_1_code 1 none ∈ aw_tbl := aw_i2 175 rfl rfl
theorem k_478 : Cond.methodLink "java/lang/IllegalArgumentException" 1 ⟨"java/lang/RuntimeException", "<init>", "()V"⟩ ∈ aw_tbl := aw_i2 176 rfl rfl
theorem k_479 : Cond.instanceMethod ⟨"java/lang/RuntimeException", "<init>", "()V"⟩ ∈ aw_tbl := aw_i2 177 rfl rfl
theorem k_480 : Cond.code ⟨"java/lang/RuntimeException", "<init>", "()V"⟩ prog_20_method_1_code 1 none ∈ aw_tbl := aw_i2 178 rfl rfl
theorem k_481 : Cond.methodLink "java/lang/RuntimeException" 1 ⟨"java/lang/Exception", "<init>", "()V"⟩ ∈ aw_tbl := aw_i2 179 rfl rfl
theorem k_482 : Cond.instanceMethod ⟨"java/lang/Exception", "<init>", "()V"⟩ ∈ aw_tbl := aw_i2 180 rfl rfl
theorem k_483 : Cond.code ⟨"java/lang/Exception", "<init>", "()V"⟩ prog_16_method_1_code 1 none ∈ aw_tbl := aw_i2 181 rfl rfl
theorem k_484 : Cond.methodLink "java/lang/Exception" 1 ⟨"java/lang/Throwable", "<init>", "()V"⟩ ∈ aw_tbl := aw_i2 182 rfl rfl
theorem k_485 : Cond.fieldLink "java/lang/Throwable" 198 "java/lang/Throwable" "backtrace" "Ljava/lang/Object;" ∈ aw_tbl := aw_i2 183 rfl rfl
theorem k_486 : Cond.fieldLink "java/lang/Throwable" 7 "java/lang/Throwable" "cause" "Ljava/lang/Throwable;" ∈ aw_tbl := aw_i2 184 rfl rfl
theorem k_487 : Cond.fieldLink "java/lang/Throwable" 17 "java/lang/Throwable" "stackTrace" "[Ljava/lang/StackTraceElement;" ∈ aw_tbl := aw_i2 185 rfl rfl
theorem k_488 : Cond.fieldLink "java/lang/Throwable" 24 "java/lang/Throwable" "suppressedExceptions" "Ljava/util/List;" ∈ aw_tbl := aw_i2 186 rfl rfl
theorem k_497 : Cond.methodLink "RescanDesk" 76 ⟨"RescanDesk", "begin", "()V"⟩ ∈ aw_tbl := aw_i2 195 rfl rfl
theorem k_499 : Cond.instanceMethod ⟨"RescanDesk", "begin", "()V"⟩ ∈ aw_tbl := aw_i2 197 rfl rfl
theorem k_500 : Cond.code ⟨"RescanDesk", "begin", "()V"⟩ prog_1_method_7_code 1 none ∈ aw_tbl := aw_i2 198 rfl rfl
theorem k_501 : Cond.methodLink "RescanDesk" 115 ⟨"RescanDesk$Front", "load", "(LRescanDesk$Text;)V"⟩ ∈ aw_tbl := aw_i2 199 rfl rfl
theorem k_502 : Cond.instanceMethod ⟨"RescanDesk$Front", "load", "(LRescanDesk$Text;)V"⟩ ∈ aw_tbl := aw_i2 200 rfl rfl
theorem k_503 : Cond.selects "RescanDesk$Front" ⟨"RescanDesk$Front", "load", "(LRescanDesk$Text;)V"⟩ ⟨"RescanDesk$Front", "load", "(LRescanDesk$Text;)V"⟩ ∈ aw_tbl := aw_i2 201 rfl rfl
theorem k_504 : Cond.code ⟨"RescanDesk$Front", "load", "(LRescanDesk$Text;)V"⟩ prog_9_method_3_code 2 none ∈ aw_tbl := aw_i2 202 rfl rfl
theorem k_505 : Cond.methodLink "RescanDesk$Front" 19 ⟨"RescanDesk$Front", "putBefore", "(LRescanDesk$Text;)Z"⟩ ∈ aw_tbl := aw_i2 203 rfl rfl
theorem k_506 : Cond.instanceMethod ⟨"RescanDesk$Front", "putBefore", "(LRescanDesk$Text;)Z"⟩ ∈ aw_tbl := aw_i2 204 rfl rfl
theorem k_507 : Cond.selects "RescanDesk$Front" ⟨"RescanDesk$Front", "putBefore", "(LRescanDesk$Text;)Z"⟩ ⟨"RescanDesk$Front", "putBefore", "(LRescanDesk$Text;)Z"⟩ ∈ aw_tbl := aw_i2 205 rfl rfl
theorem k_508 : Cond.code ⟨"RescanDesk$Front", "putBefore", "(LRescanDesk$Text;)Z"⟩ prog_9_method_4_code 2 (some .boolean) ∈ aw_tbl := aw_i2 206 rfl rfl
theorem k_509 : Cond.methodLink "RescanDesk$Front" 29 ⟨"java/lang/System", "arraycopy", "(Ljava/lang/Object;ILjava/lang/Object;II)V"⟩ ∈ aw_tbl := aw_i2 207 rfl rfl
theorem k_510 : Cond.static ⟨"java/lang/System", "arraycopy", "(Ljava/lang/Object;ILjava/lang/Object;II)V"⟩ ∈ aw_tbl := aw_i2 208 rfl rfl
theorem k_511 : Cond.native ⟨"java/lang/System", "arraycopy", "(Ljava/lang/Object;ILjava/lang/Object;II)V"⟩ ∈ aw_tbl := aw_i2 209 rfl rfl
theorem k_512 : Cond.methodLink "RescanDesk" 119 ⟨"RescanDesk$Rows", "begin", "()V"⟩ ∈ aw_tbl := aw_i2 210 rfl rfl
theorem k_513 : Cond.instanceMethod ⟨"RescanDesk$Rows", "begin", "()V"⟩ ∈ aw_tbl := aw_i2 211 rfl rfl
theorem k_514 : Cond.selects "RescanDesk$Rows" ⟨"RescanDesk$Rows", "begin", "()V"⟩ ⟨"RescanDesk$Rows", "begin", "()V"⟩ ∈ aw_tbl := aw_i2 212 rfl rfl
theorem k_515 : Cond.code ⟨"RescanDesk$Rows", "begin", "()V"⟩ prog_10_method_2_code 2 none ∈ aw_tbl := aw_i2 213 rfl rfl
theorem k_516 : Cond.methodLink "RescanDesk$Rows" 24 ⟨"RescanDesk$Text", "empty", "()V"⟩ ∈ aw_tbl := aw_i2 214 rfl rfl
theorem k_517 : Cond.methodLink "RescanDesk" 120 ⟨"RescanDesk$Calls", "begin", "()V"⟩ ∈ aw_tbl := aw_i2 215 rfl rfl
theorem k_518 : Cond.instanceMethod ⟨"RescanDesk$Calls", "begin", "()V"⟩ ∈ aw_tbl := aw_i2 216 rfl rfl
theorem k_519 : Cond.selects "RescanDesk$Calls" ⟨"RescanDesk$Calls", "begin", "()V"⟩ ⟨"RescanDesk$Calls", "begin", "()V"⟩ ∈ aw_tbl := aw_i2 217 rfl rfl
theorem k_520 : Cond.code ⟨"RescanDesk$Calls", "begin", "()V"⟩ prog_5_method_2_code 1 none ∈ aw_tbl := aw_i2 218 rfl rfl
theorem k_521 : Cond.methodLink "RescanDesk$Calls" 44 ⟨"RescanDesk$Text", "empty", "()V"⟩ ∈ aw_tbl := aw_i2 219 rfl rfl
theorem k_522 : Cond.methodLink "RescanDesk" 82 ⟨"RescanDesk", "read", "()I"⟩ ∈ aw_tbl := aw_i2 220 rfl rfl
theorem k_524 : Cond.instanceMethod ⟨"RescanDesk", "read", "()I"⟩ ∈ aw_tbl := aw_i2 222 rfl rfl
theorem k_525 : Cond.code ⟨"RescanDesk", "read", "()I"⟩ prog_1_method_9_code 3 (some .int) ∈ aw_tbl := aw_i2 223 rfl rfl
theorem k_526 : Cond.methodLink "RescanDesk" 132 ⟨"RescanDesk", "readQuote", "()I"⟩ ∈ aw_tbl := aw_i2 224 rfl rfl
theorem k_528 : Cond.instanceMethod ⟨"RescanDesk", "readQuote", "()I"⟩ ∈ aw_tbl := aw_i2 226 rfl rfl
theorem k_529 : Cond.code ⟨"RescanDesk", "readQuote", "()I"⟩ prog_1_method_10_code 3 (some .int) ∈ aw_tbl := aw_i2 227 rfl rfl
theorem k_530 : Cond.methodLink "RescanDesk" 153 ⟨"RescanDesk$Front", "closingQuote", "()I"⟩ ∈ aw_tbl := aw_i2 228 rfl rfl
theorem k_531 : Cond.instanceMethod ⟨"RescanDesk$Front", "closingQuote", "()I"⟩ ∈ aw_tbl := aw_i2 229 rfl rfl
theorem k_532 : Cond.selects "RescanDesk$Front" ⟨"RescanDesk$Front", "closingQuote", "()I"⟩ ⟨"RescanDesk$Front", "closingQuote", "()I"⟩ ∈ aw_tbl := aw_i2 230 rfl rfl
theorem k_533 : Cond.code ⟨"RescanDesk$Front", "closingQuote", "()I"⟩ prog_9_method_5_code 3 (some .int) ∈ aw_tbl := aw_i2 231 rfl rfl
theorem k_534 : Cond.methodLink "RescanDesk" 156 ⟨"RescanDesk$Calls", "markBegun", "()V"⟩ ∈ aw_tbl := aw_i2 232 rfl rfl
theorem k_535 : Cond.instanceMethod ⟨"RescanDesk$Calls", "markBegun", "()V"⟩ ∈ aw_tbl := aw_i2 233 rfl rfl
theorem k_536 : Cond.selects "RescanDesk$Calls" ⟨"RescanDesk$Calls", "markBegun", "()V"⟩ ⟨"RescanDesk$Calls", "markBegun", "()V"⟩ ∈ aw_tbl := aw_i2 234 rfl rfl
theorem k_537 : Cond.code ⟨"RescanDesk$Calls", "markBegun", "()V"⟩ prog_5_method_4_code 1 none ∈ aw_tbl := aw_i2 235 rfl rfl
theorem k_538 : Cond.methodLink "RescanDesk" 145 ⟨"RescanDesk", "write", "(II)I"⟩ ∈ aw_tbl := aw_i2 236 rfl rfl
theorem k_540 : Cond.instanceMethod ⟨"RescanDesk", "write", "(II)I"⟩ ∈ aw_tbl := aw_i2 238 rfl rfl
theorem k_541 : Cond.code ⟨"RescanDesk", "write", "(II)I"⟩ prog_1_method_13_code 4 (some .int) ∈ aw_tbl := aw_i2 239 rfl rfl
theorem k_542 : Cond.methodLink "RescanDesk" 199 ⟨"RescanDesk$Rows", "presentRow", "()LRescanDesk$Text;"⟩ ∈ aw_tbl := aw_i3 0 rfl rfl
theorem k_543 : Cond.instanceMethod ⟨"RescanDesk$Rows", "presentRow", "()LRescanDesk$Text;"⟩ ∈ aw_tbl := aw_i3 1 rfl rfl
theorem k_544 : Cond.selects "RescanDesk$Rows" ⟨"RescanDesk$Rows", "presentRow", "()LRescanDesk$Text;"⟩ ⟨"RescanDesk$Rows", "presentRow", "()LRescanDesk$Text;"⟩ ∈ aw_tbl := aw_i3 2 rfl rfl
theorem k_545 : Cond.code ⟨"RescanDesk$Rows", "presentRow", "()LRescanDesk$Text;"⟩ prog_10_method_3_code 1 (some (.object "RescanDesk$Text")) ∈ aw_tbl := aw_i3 3 rfl rfl
theorem k_546 : Cond.methodLink "RescanDesk" 203 ⟨"RescanDesk$Text", "addPart", "([CII)Z"⟩ ∈ aw_tbl := aw_i3 4 rfl rfl
theorem k_547 : Cond.instanceMethod ⟨"RescanDesk$Text", "addPart", "([CII)Z"⟩ ∈ aw_tbl := aw_i3 5 rfl rfl
theorem k_548 : Cond.selects "RescanDesk$Text" ⟨"RescanDesk$Text", "addPart", "([CII)Z"⟩ ⟨"RescanDesk$Text", "addPart", "([CII)Z"⟩ ∈ aw_tbl := aw_i3 6 rfl rfl
theorem k_549 : Cond.code ⟨"RescanDesk$Text", "addPart", "([CII)Z"⟩ prog_12_method_4_code 5 (some .boolean) ∈ aw_tbl := aw_i3 7 rfl rfl
theorem k_550 : Cond.methodLink "RescanDesk$Text" 19 ⟨"java/lang/Math", "min", "(II)I"⟩ ∈ aw_tbl := aw_i3 8 rfl rfl
theorem k_551 : Cond.static ⟨"java/lang/Math", "min", "(II)I"⟩ ∈ aw_tbl := aw_i3 9 rfl rfl
theorem k_552 : Cond.code ⟨"java/lang/Math", "min", "(II)I"⟩ prog_19_method_69_code 2 (some .int) ∈ aw_tbl := aw_i3 10 rfl rfl
theorem k_553 : Cond.methodLink "RescanDesk$Text" 25 ⟨"java/lang/System", "arraycopy", "(Ljava/lang/Object;ILjava/lang/Object;II)V"⟩ ∈ aw_tbl := aw_i3 11 rfl rfl
theorem k_554 : Cond.methodLink "RescanDesk" 135 ⟨"RescanDesk", "isLetter", "(C)Z"⟩ ∈ aw_tbl := aw_i3 12 rfl rfl
theorem k_555 : Cond.static ⟨"RescanDesk", "isLetter", "(C)Z"⟩ ∈ aw_tbl := aw_i3 13 rfl rfl
theorem k_556 : Cond.code ⟨"RescanDesk", "isLetter", "(C)Z"⟩ prog_1_method_14_code 1 (some .boolean) ∈ aw_tbl := aw_i3 14 rfl rfl
theorem k_557 : Cond.methodLink "RescanDesk" 138 ⟨"RescanDesk", "readName", "()I"⟩ ∈ aw_tbl := aw_i3 15 rfl rfl
theorem k_559 : Cond.instanceMethod ⟨"RescanDesk", "readName", "()I"⟩ ∈ aw_tbl := aw_i3 17 rfl rfl
theorem k_560 : Cond.code ⟨"RescanDesk", "readName", "()I"⟩ prog_1_method_11_code 5 (some .int) ∈ aw_tbl := aw_i3 18 rfl rfl
theorem k_561 : Cond.methodLink "RescanDesk" 159 ⟨"RescanDesk", "nameEnd", "([CII)I"⟩ ∈ aw_tbl := aw_i3 19 rfl rfl
theorem k_562 : Cond.static ⟨"RescanDesk", "nameEnd", "([CII)I"⟩ ∈ aw_tbl := aw_i3 20 rfl rfl
theorem k_563 : Cond.code ⟨"RescanDesk", "nameEnd", "([CII)I"⟩ prog_1_method_17_code 4 (some .int) ∈ aw_tbl := aw_i3 21 rfl rfl
theorem k_564 : Cond.methodLink "RescanDesk" 207 ⟨"RescanDesk", "isDigit", "(C)Z"⟩ ∈ aw_tbl := aw_i3 22 rfl rfl
theorem k_565 : Cond.static ⟨"RescanDesk", "isDigit", "(C)Z"⟩ ∈ aw_tbl := aw_i3 23 rfl rfl
theorem k_566 : Cond.code ⟨"RescanDesk", "isDigit", "(C)Z"⟩ prog_1_method_15_code 1 (some .boolean) ∈ aw_tbl := aw_i3 24 rfl rfl
theorem k_567 : Cond.methodLink "RescanDesk" 163 ⟨"RescanDesk$Table", "topmost", "([CII)I"⟩ ∈ aw_tbl := aw_i3 25 rfl rfl
theorem k_568 : Cond.methodLink "RescanDesk" 170 ⟨"RescanDesk$Calls", "bare", "(LRescanDesk$Definition;)LRescanDesk$Call;"⟩ ∈ aw_tbl := aw_i3 26 rfl rfl
theorem k_569 : Cond.instanceMethod ⟨"RescanDesk$Calls", "bare", "(LRescanDesk$Definition;)LRescanDesk$Call;"⟩ ∈ aw_tbl := aw_i3 27 rfl rfl
theorem k_570 : Cond.selects "RescanDesk$Calls" ⟨"RescanDesk$Calls", "bare", "(LRescanDesk$Definition;)LRescanDesk$Call;"⟩ ⟨"RescanDesk$Calls", "bare", "(LRescanDesk$Definition;)LRescanDesk$Call;"⟩ ∈ aw_tbl := aw_i3 28 rfl rfl
theorem k_571 : Cond.code ⟨"RescanDesk$Calls", "bare", "(LRescanDesk$Definition;)LRescanDesk$Call;"⟩ prog_5_method_5_code 2 (some (.object "RescanDesk$Call")) ∈ aw_tbl := aw_i3 29 rfl rfl
theorem k_572 : Cond.methodLink "RescanDesk$Calls" 55 ⟨"RescanDesk$Definition", "copy", "(LRescanDesk$Definition;)V"⟩ ∈ aw_tbl := aw_i3 30 rfl rfl
theorem k_573 : Cond.instanceMethod ⟨"RescanDesk$Definition", "copy", "(LRescanDesk$Definition;)V"⟩ ∈ aw_tbl := aw_i3 31 rfl rfl
theorem k_574 : Cond.selects "RescanDesk$Definition" ⟨"RescanDesk$Definition", "copy", "(LRescanDesk$Definition;)V"⟩ ⟨"RescanDesk$Definition", "copy", "(LRescanDesk$Definition;)V"⟩ ∈ aw_tbl := aw_i3 32 rfl rfl
theorem k_575 : Cond.code ⟨"RescanDesk$Definition", "copy", "(LRescanDesk$Definition;)V"⟩ prog_6_method_4_code 2 none ∈ aw_tbl := aw_i3 33 rfl rfl
theorem k_576 : Cond.methodLink "RescanDesk$Definition" 50 ⟨"RescanDesk$Text", "set", "([CII)V"⟩ ∈ aw_tbl := aw_i3 34 rfl rfl
theorem k_577 : Cond.instanceMethod ⟨"RescanDesk$Text", "set", "([CII)V"⟩ ∈ aw_tbl := aw_i3 35 rfl rfl
theorem k_578 : Cond.selects "RescanDesk$Text" ⟨"RescanDesk$Text", "set", "([CII)V"⟩ ⟨"RescanDesk$Text", "set", "([CII)V"⟩ ∈ aw_tbl := aw_i3 36 rfl rfl
theorem k_579 : Cond.code ⟨"RescanDesk$Text", "set", "([CII)V"⟩ prog_12_method_6_code 4 none ∈ aw_tbl := aw_i3 37 rfl rfl
theorem k_580 : Cond.methodLink "RescanDesk$Text" 31 ⟨"RescanDesk$Text", "addPart", "([CII)Z"⟩ ∈ aw_tbl := aw_i3 38 rfl rfl
theorem k_581 : Cond.methodLink "RescanDesk" 174 ⟨"RescanDesk$Calls", "start", "(LRescanDesk$Definition;)Z"⟩ ∈ aw_tbl := aw_i3 39 rfl rfl
theorem k_582 : Cond.instanceMethod ⟨"RescanDesk$Calls", "start", "(LRescanDesk$Definition;)Z"⟩ ∈ aw_tbl := aw_i3 40 rfl rfl
theorem k_583 : Cond.selects "RescanDesk$Calls" ⟨"RescanDesk$Calls", "start", "(LRescanDesk$Definition;)Z"⟩ ⟨"RescanDesk$Calls", "start", "(LRescanDesk$Definition;)Z"⟩ ∈ aw_tbl := aw_i3 41 rfl rfl
theorem k_584 : Cond.code ⟨"RescanDesk$Calls", "start", "(LRescanDesk$Definition;)Z"⟩ prog_5_method_6_code 3 (some .boolean) ∈ aw_tbl := aw_i3 42 rfl rfl
theorem k_585 : Cond.methodLink "RescanDesk$Calls" 74 ⟨"java/lang/Math", "max", "(II)I"⟩ ∈ aw_tbl := aw_i3 43 rfl rfl
theorem k_586 : Cond.static ⟨"java/lang/Math", "max", "(II)I"⟩ ∈ aw_tbl := aw_i3 44 rfl rfl
theorem k_587 : Cond.code ⟨"java/lang/Math", "max", "(II)I"⟩ prog_19_method_65_code 2 (some .int) ∈ aw_tbl := aw_i3 45 rfl rfl
theorem k_588 : Cond.methodLink "RescanDesk" 141 ⟨"RescanDesk$Calls", "latest", "()LRescanDesk$Call;"⟩ ∈ aw_tbl := aw_i3 46 rfl rfl
theorem k_589 : Cond.instanceMethod ⟨"RescanDesk$Calls", "latest", "()LRescanDesk$Call;"⟩ ∈ aw_tbl := aw_i3 47 rfl rfl
theorem k_590 : Cond.selects "RescanDesk$Calls" ⟨"RescanDesk$Calls", "latest", "()LRescanDesk$Call;"⟩ ⟨"RescanDesk$Calls", "latest", "()LRescanDesk$Call;"⟩ ∈ aw_tbl := aw_i3 48 rfl rfl
theorem k_591 : Cond.code ⟨"RescanDesk$Calls", "latest", "()LRescanDesk$Call;"⟩ prog_5_method_3_code 1 (some (.object "RescanDesk$Call")) ∈ aw_tbl := aw_i3 49 rfl rfl
theorem k_592 : Cond.methodLink "RescanDesk" 149 ⟨"RescanDesk", "readInCall", "(LRescanDesk$Call;C)I"⟩ ∈ aw_tbl := aw_i3 50 rfl rfl
theorem k_594 : Cond.instanceMethod ⟨"RescanDesk", "readInCall", "(LRescanDesk$Call;C)I"⟩ ∈ aw_tbl := aw_i3 52 rfl rfl
theorem k_595 : Cond.code ⟨"RescanDesk", "readInCall", "(LRescanDesk$Call;C)I"⟩ prog_1_method_12_code 3 (some .int) ∈ aw_tbl := aw_i3 53 rfl rfl
theorem k_596 : Cond.methodLink "RescanDesk" 182 ⟨"RescanDesk$Calls", "close", "()LRescanDesk$Call;"⟩ ∈ aw_tbl := aw_i3 54 rfl rfl
theorem k_597 : Cond.instanceMethod ⟨"RescanDesk$Calls", "close", "()LRescanDesk$Call;"⟩ ∈ aw_tbl := aw_i3 55 rfl rfl
theorem k_598 : Cond.selects "RescanDesk$Calls" ⟨"RescanDesk$Calls", "close", "()LRescanDesk$Call;"⟩ ⟨"RescanDesk$Calls", "close", "()LRescanDesk$Call;"⟩ ∈ aw_tbl := aw_i3 56 rfl rfl
theorem k_599 : Cond.code ⟨"RescanDesk$Calls", "close", "()LRescanDesk$Call;"⟩ prog_5_method_8_code 2 (some (.object "RescanDesk$Call")) ∈ aw_tbl := aw_i3 57 rfl rfl
theorem k_600 : Cond.methodLink "RescanDesk$Calls" 80 ⟨"RescanDesk$Calls", "latest", "()LRescanDesk$Call;"⟩ ∈ aw_tbl := aw_i3 58 rfl rfl
theorem k_601 : Cond.methodLink "RescanDesk" 185 ⟨"RescanDesk$Calls", "nextArgument", "(LRescanDesk$Call;)Z"⟩ ∈ aw_tbl := aw_i3 59 rfl rfl
theorem k_602 : Cond.instanceMethod ⟨"RescanDesk$Calls", "nextArgument", "(LRescanDesk$Call;)Z"⟩ ∈ aw_tbl := aw_i3 60 rfl rfl
theorem k_603 : Cond.selects "RescanDesk$Calls" ⟨"RescanDesk$Calls", "nextArgument", "(LRescanDesk$Call;)Z"⟩ ⟨"RescanDesk$Calls", "nextArgument", "(LRescanDesk$Call;)Z"⟩ ∈ aw_tbl := aw_i3 61 rfl rfl
theorem k_604 : Cond.code ⟨"RescanDesk$Calls", "nextArgument", "(LRescanDesk$Call;)Z"⟩ prog_5_method_7_code 2 (some .boolean) ∈ aw_tbl := aw_i3 62 rfl rfl
theorem k_605 : Cond.methodLink "RescanDesk" 189 ⟨"RescanDesk", "isBlank", "(C)Z"⟩ ∈ aw_tbl := aw_i3 63 rfl rfl
theorem k_606 : Cond.static ⟨"RescanDesk", "isBlank", "(C)Z"⟩ ∈ aw_tbl := aw_i3 64 rfl rfl
theorem k_607 : Cond.code ⟨"RescanDesk", "isBlank", "(C)Z"⟩ prog_1_method_16_code 1 (some .boolean) ∈ aw_tbl := aw_i3 65 rfl rfl
theorem k_608 : Cond.methodLink "RescanDesk" 85 ⟨"RescanDesk$Expander", "expand", "(LRescanDesk$Call;)I"⟩ ∈ aw_tbl := aw_i3 66 rfl rfl
theorem k_609 : Cond.instanceMethod ⟨"RescanDesk$Expander", "expand", "(LRescanDesk$Call;)I"⟩ ∈ aw_tbl := aw_i3 67 rfl rfl
theorem k_610 : Cond.selects "RescanDesk$Expander" ⟨"RescanDesk$Expander", "expand", "(LRescanDesk$Call;)I"⟩ ⟨"RescanDesk$Expander", "expand", "(LRescanDesk$Call;)I"⟩ ∈ aw_tbl := aw_i3 68 rfl rfl
theorem k_611 : Cond.code ⟨"RescanDesk$Expander", "expand", "(LRescanDesk$Call;)I"⟩ prog_7_method_2_code 4 (some .int) ∈ aw_tbl := aw_i3 69 rfl rfl
theorem k_612 : Cond.methodLink "RescanDesk$Expander" 39 ⟨"RescanDesk$Text", "empty", "()V"⟩ ∈ aw_tbl := aw_i3 70 rfl rfl
theorem k_613 : Cond.methodLink "RescanDesk$Expander" 54 ⟨"RescanDesk$Expander", "makeBody", "(LRescanDesk$Call;)V"⟩ ∈ aw_tbl := aw_i3 71 rfl rfl
theorem k_615 : Cond.instanceMethod ⟨"RescanDesk$Expander", "makeBody", "(LRescanDesk$Call;)V"⟩ ∈ aw_tbl := aw_i3 73 rfl rfl
theorem k_616 : Cond.code ⟨"RescanDesk$Expander", "makeBody", "(LRescanDesk$Call;)V"⟩ prog_7_method_3_code 5 none ∈ aw_tbl := aw_i3 74 rfl rfl
theorem k_617 : Cond.methodLink "RescanDesk$Expander" 83 ⟨"RescanDesk$Expander", "makeParameter", "(LRescanDesk$Call;C)Z"⟩ ∈ aw_tbl := aw_i3 75 rfl rfl
theorem k_619 : Cond.instanceMethod ⟨"RescanDesk$Expander", "makeParameter", "(LRescanDesk$Call;C)Z"⟩ ∈ aw_tbl := aw_i3 77 rfl rfl
theorem k_620 : Cond.code ⟨"RescanDesk$Expander", "makeParameter", "(LRescanDesk$Call;C)Z"⟩ prog_7_method_4_code 4 (some .boolean) ∈ aw_tbl := aw_i3 78 rfl rfl
theorem k_621 : Cond.methodLink "RescanDesk$Expander" 94 ⟨"RescanDesk$Text", "addPart", "([CII)Z"⟩ ∈ aw_tbl := aw_i3 79 rfl rfl
theorem k_622 : Cond.methodLinkNest "RescanDesk$Expander" 98 ⟨"RescanDesk", "isDigit", "(C)Z"⟩ "RescanDesk" ∈ aw_nest := aw_n3 80 rfl rfl
theorem k_623 : Cond.methodLink "RescanDesk$Expander" 101 ⟨"RescanDesk$Expander", "makeArgument", "(LRescanDesk$Call;I)V"⟩ ∈ aw_tbl := aw_i3 81 rfl rfl
theorem k_625 : Cond.instanceMethod ⟨"RescanDesk$Expander", "makeArgument", "(LRescanDesk$Call;I)V"⟩ ∈ aw_tbl := aw_i3 83 rfl rfl
theorem k_626 : Cond.code ⟨"RescanDesk$Expander", "makeArgument", "(LRescanDesk$Call;I)V"⟩ prog_7_method_5_code 3 none ∈ aw_tbl := aw_i3 84 rfl rfl
theorem k_627 : Cond.methodLink "RescanDesk$Expander" 117 ⟨"RescanDesk$Call", "from", "(I)I"⟩ ∈ aw_tbl := aw_i3 85 rfl rfl
theorem k_628 : Cond.instanceMethod ⟨"RescanDesk$Call", "from", "(I)I"⟩ ∈ aw_tbl := aw_i3 86 rfl rfl
theorem k_629 : Cond.selects "RescanDesk$Call" ⟨"RescanDesk$Call", "from", "(I)I"⟩ ⟨"RescanDesk$Call", "from", "(I)I"⟩ ∈ aw_tbl := aw_i3 87 rfl rfl
theorem k_630 : Cond.code ⟨"RescanDesk$Call", "from", "(I)I"⟩ prog_4_method_2_code 2 (some .int) ∈ aw_tbl := aw_i3 88 rfl rfl
theorem k_631 : Cond.methodLink "RescanDesk$Expander" 121 ⟨"RescanDesk$Call", "to", "(I)I"⟩ ∈ aw_tbl := aw_i3 89 rfl rfl
theorem k_632 : Cond.instanceMethod ⟨"RescanDesk$Call", "to", "(I)I"⟩ ∈ aw_tbl := aw_i3 90 rfl rfl
theorem k_633 : Cond.selects "RescanDesk$Call" ⟨"RescanDesk$Call", "to", "(I)I"⟩ ⟨"RescanDesk$Call", "to", "(I)I"⟩ ∈ aw_tbl := aw_i3 91 rfl rfl
theorem k_634 : Cond.code ⟨"RescanDesk$Call", "to", "(I)I"⟩ prog_4_method_3_code 2 (some .int) ∈ aw_tbl := aw_i3 92 rfl rfl
theorem k_635 : Cond.methodLink "RescanDesk$Expander" 108 ⟨"RescanDesk$Text", "addNumber", "(J)V"⟩ ∈ aw_tbl := aw_i3 93 rfl rfl
theorem k_636 : Cond.instanceMethod ⟨"RescanDesk$Text", "addNumber", "(J)V"⟩ ∈ aw_tbl := aw_i3 94 rfl rfl
theorem k_637 : Cond.selects "RescanDesk$Text" ⟨"RescanDesk$Text", "addNumber", "(J)V"⟩ ⟨"RescanDesk$Text", "addNumber", "(J)V"⟩ ∈ aw_tbl := aw_i3 95 rfl rfl
theorem k_638 : Cond.code ⟨"RescanDesk$Text", "addNumber", "(J)V"⟩ prog_12_method_7_code 8 none ∈ aw_tbl := aw_i3 96 rfl rfl
theorem k_639 : Cond.methodLink "RescanDesk$Text" 35 ⟨"RescanDesk$Text", "add", "(C)Z"⟩ ∈ aw_tbl := aw_i3 97 rfl rfl
theorem k_640 : Cond.constantLong "RescanDesk$Text" 39 (-10 : Int64) ∈ aw_tbl := aw_i3 98 rfl rfl
theorem k_641 : Cond.constantLong "RescanDesk$Text" 41 (10 : Int64) ∈ aw_tbl := aw_i3 99 rfl rfl
theorem k_642 : Cond.constantLong "RescanDesk$Text" 43 (48 : Int64) ∈ aw_tbl := aw_i3 100 rfl rfl
theorem k_643 : Cond.methodLink "RescanDesk$Expander" 112 ⟨"RescanDesk$Expander", "makeList", "(LRescanDesk$Call;IZ)V"⟩ ∈ aw_tbl := aw_i3 101 rfl rfl
theorem k_645 : Cond.instanceMethod ⟨"RescanDesk$Expander", "makeList", "(LRescanDesk$Call;IZ)V"⟩ ∈ aw_tbl := aw_i3 103 rfl rfl
theorem k_646 : Cond.code ⟨"RescanDesk$Expander", "makeList", "(LRescanDesk$Call;IZ)V"⟩ prog_7_method_6_code 5 none ∈ aw_tbl := aw_i3 104 rfl rfl
theorem k_647 : Cond.methodLink "RescanDesk$Expander" 87 ⟨"RescanDesk$Text", "add", "(C)Z"⟩ ∈ aw_tbl := aw_i3 105 rfl rfl
theorem k_648 : Cond.methodLink "RescanDesk$Expander" 58 ⟨"RescanDesk$Expander", "act", "(LRescanDesk$Call;LRescanDesk$BuiltIn;)I"⟩ ∈ aw_tbl := aw_i3 106 rfl rfl
theorem k_650 : Cond.instanceMethod ⟨"RescanDesk$Expander", "act", "(LRescanDesk$Call;LRescanDesk$BuiltIn;)I"⟩ ∈ aw_tbl := aw_i3 108 rfl rfl
theorem k_651 : Cond.code ⟨"RescanDesk$Expander", "act", "(LRescanDesk$Call;LRescanDesk$BuiltIn;)I"⟩ prog_7_method_7_code 3 (some .int) ∈ aw_tbl := aw_i3 109 rfl rfl
theorem k_652 : Cond.fieldLink "RescanDesk$Expander" 124 "RescanDesk$1" "$SwitchMap$RescanDesk$BuiltIn" "[I" ∈ aw_tbl := aw_i3 110 rfl rfl
theorem k_654 : Cond.methodLink "RescanDesk$Expander" 130 ⟨"RescanDesk$BuiltIn", "ordinal", "()I"⟩ ∈ aw_tbl := aw_i3 112 rfl rfl
theorem k_655 : Cond.sameMethod "RescanDesk$BuiltIn" "java/lang/Enum" "ordinal" "()I" ∈ aw_tbl := aw_i3 113 rfl rfl
theorem k_657 : Cond.selects "RescanDesk$BuiltIn" ⟨"RescanDesk$BuiltIn", "ordinal", "()I"⟩ ⟨"java/lang/Enum", "ordinal", "()I"⟩ ∈ aw_tbl := aw_i3 115 rfl rfl
theorem k_658 : Cond.instanceMethod ⟨"java/lang/Enum", "ordinal", "()I"⟩ ∈ aw_tbl := aw_i3 116 rfl rfl
theorem k_659 : Cond.code ⟨"java/lang/Enum", "ordinal", "()I"⟩ prog_15_method_2_code 1 (some .int) ∈ aw_tbl := aw_i3 117 rfl rfl
theorem k_660 : Cond.methodLink "RescanDesk$Expander" 136 ⟨"RescanDesk$Expander", "define", "(LRescanDesk$Call;Z)I"⟩ ∈ aw_tbl := aw_i3 118 rfl rfl
theorem k_662 : Cond.instanceMethod ⟨"RescanDesk$Expander", "define", "(LRescanDesk$Call;Z)I"⟩ ∈ aw_tbl := aw_i3 120 rfl rfl
theorem k_663 : Cond.code ⟨"RescanDesk$Expander", "define", "(LRescanDesk$Call;Z)I"⟩ prog_7_method_10_code 5 (some .int) ∈ aw_tbl := aw_i3 121 rfl rfl
theorem k_664 : Cond.methodLinkNest "RescanDesk$Expander" 190 ⟨"RescanDesk", "isName", "([CII)Z"⟩ "RescanDesk" ∈ aw_nest := aw_n3 122 rfl rfl
theorem k_665 : Cond.static ⟨"RescanDesk", "isName", "([CII)Z"⟩ ∈ aw_tbl := aw_i3 123 rfl rfl
theorem k_666 : Cond.code ⟨"RescanDesk", "isName", "([CII)Z"⟩ prog_1_method_18_code 3 (some .boolean) ∈ aw_tbl := aw_i3 124 rfl rfl
theorem k_667 : Cond.methodLink "RescanDesk$Expander" 175 ⟨"RescanDesk$Call", "length", "(I)I"⟩ ∈ aw_tbl := aw_i3 125 rfl rfl
theorem k_668 : Cond.instanceMethod ⟨"RescanDesk$Call", "length", "(I)I"⟩ ∈ aw_tbl := aw_i3 126 rfl rfl
theorem k_669 : Cond.selects "RescanDesk$Call" ⟨"RescanDesk$Call", "length", "(I)I"⟩ ⟨"RescanDesk$Call", "length", "(I)I"⟩ ∈ aw_tbl := aw_i3 127 rfl rfl
theorem k_670 : Cond.code ⟨"RescanDesk$Call", "length", "(I)I"⟩ prog_4_method_4_code 2 (some .int) ∈ aw_tbl := aw_i3 128 rfl rfl
theorem k_671 : Cond.methodLink "RescanDesk$Call" 37 ⟨"RescanDesk$Call", "to", "(I)I"⟩ ∈ aw_tbl := aw_i3 129 rfl rfl
theorem k_672 : Cond.methodLink "RescanDesk$Call" 41 ⟨"RescanDesk$Call", "from", "(I)I"⟩ ∈ aw_tbl := aw_i3 130 rfl rfl
theorem k_673 : Cond.methodLink "RescanDesk$Expander" 169 ⟨"RescanDesk$Expander", "placeOfFirst", "(LRescanDesk$Call;)I"⟩ ∈ aw_tbl := aw_i3 131 rfl rfl
theorem k_675 : Cond.instanceMethod ⟨"RescanDesk$Expander", "placeOfFirst", "(LRescanDesk$Call;)I"⟩ ∈ aw_tbl := aw_i3 133 rfl rfl
theorem k_676 : Cond.code ⟨"RescanDesk$Expander", "placeOfFirst", "(LRescanDesk$Call;)I"⟩ prog_7_method_9_code 2 (some .int) ∈ aw_tbl := aw_i3 134 rfl rfl
theorem k_677 : Cond.methodLink "RescanDesk$Expander" 186 ⟨"RescanDesk$Table", "topmost", "([CII)I"⟩ ∈ aw_tbl := aw_i3 135 rfl rfl
theorem k_678 : Cond.methodLink "RescanDesk$Expander" 193 ⟨"RescanDesk$Table", "push", "([CII)LRescanDesk$Definition;"⟩ ∈ aw_tbl := aw_i3 136 rfl rfl
theorem k_679 : Cond.instanceMethod ⟨"RescanDesk$Table", "push", "([CII)LRescanDesk$Definition;"⟩ ∈ aw_tbl := aw_i3 137 rfl rfl
theorem k_680 : Cond.selects "RescanDesk$Table" ⟨"RescanDesk$Table", "push", "([CII)LRescanDesk$Definition;"⟩ ⟨"RescanDesk$Table", "push", "([CII)LRescanDesk$Definition;"⟩ ∈ aw_tbl := aw_i3 138 rfl rfl
theorem k_681 : Cond.code ⟨"RescanDesk$Table", "push", "([CII)LRescanDesk$Definition;"⟩ prog_11_method_4_code 5 (some (.object "RescanDesk$Definition")) ∈ aw_tbl := aw_i3 139 rfl rfl
theorem k_682 : Cond.methodLink "RescanDesk$Table" 53 ⟨"RescanDesk$Text", "set", "([CII)V"⟩ ∈ aw_tbl := aw_i3 140 rfl rfl
theorem k_683 : Cond.methodLink "RescanDesk$Expander" 201 ⟨"RescanDesk$Definition", "setBody", "([CII)V"⟩ ∈ aw_tbl := aw_i3 141 rfl rfl
theorem k_684 : Cond.instanceMethod ⟨"RescanDesk$Definition", "setBody", "([CII)V"⟩ ∈ aw_tbl := aw_i3 142 rfl rfl
theorem k_685 : Cond.selects "RescanDesk$Definition" ⟨"RescanDesk$Definition", "setBody", "([CII)V"⟩ ⟨"RescanDesk$Definition", "setBody", "([CII)V"⟩ ∈ aw_tbl := aw_i3 143 rfl rfl
theorem k_686 : Cond.code ⟨"RescanDesk$Definition", "setBody", "([CII)V"⟩ prog_6_method_3_code 4 none ∈ aw_tbl := aw_i3 144 rfl rfl
theorem k_687 : Cond.methodLink "RescanDesk$Expander" 140 ⟨"RescanDesk$Table", "pop", "([CII)V"⟩ ∈ aw_tbl := aw_i3 145 rfl rfl
theorem k_688 : Cond.instanceMethod ⟨"RescanDesk$Table", "pop", "([CII)V"⟩ ∈ aw_tbl := aw_i3 146 rfl rfl
theorem k_689 : Cond.selects "RescanDesk$Table" ⟨"RescanDesk$Table", "pop", "([CII)V"⟩ ⟨"RescanDesk$Table", "pop", "([CII)V"⟩ ∈ aw_tbl := aw_i3 147 rfl rfl
theorem k_690 : Cond.code ⟨"RescanDesk$Table", "pop", "([CII)V"⟩ prog_11_method_5_code 5 none ∈ aw_tbl := aw_i3 148 rfl rfl
theorem k_691 : Cond.methodLink "RescanDesk$Table" 57 ⟨"RescanDesk$Table", "remove", "(I)V"⟩ ∈ aw_tbl := aw_i3 149 rfl rfl
theorem k_693 : Cond.instanceMethod ⟨"RescanDesk$Table", "remove", "(I)V"⟩ ∈ aw_tbl := aw_i3 151 rfl rfl
theorem k_694 : Cond.code ⟨"RescanDesk$Table", "remove", "(I)V"⟩ prog_11_method_7_code 4 none ∈ aw_tbl := aw_i3 152 rfl rfl
theorem k_695 : Cond.methodLink "RescanDesk$Expander" 146 ⟨"RescanDesk$Table", "popAll", "([CII)V"⟩ ∈ aw_tbl := aw_i3 153 rfl rfl
theorem k_696 : Cond.instanceMethod ⟨"RescanDesk$Table", "popAll", "([CII)V"⟩ ∈ aw_tbl := aw_i3 154 rfl rfl
theorem k_697 : Cond.selects "RescanDesk$Table" ⟨"RescanDesk$Table", "popAll", "([CII)V"⟩ ⟨"RescanDesk$Table", "popAll", "([CII)V"⟩ ∈ aw_tbl := aw_i3 155 rfl rfl
theorem k_698 : Cond.code ⟨"RescanDesk$Table", "popAll", "([CII)V"⟩ prog_11_method_6_code 5 none ∈ aw_tbl := aw_i3 156 rfl rfl
theorem k_699 : Cond.methodLink "RescanDesk$Expander" 149 ⟨"RescanDesk$Call", "value", "(I)J"⟩ ∈ aw_tbl := aw_i3 157 rfl rfl
theorem k_700 : Cond.instanceMethod ⟨"RescanDesk$Call", "value", "(I)J"⟩ ∈ aw_tbl := aw_i3 158 rfl rfl
theorem k_701 : Cond.selects "RescanDesk$Call" ⟨"RescanDesk$Call", "value", "(I)J"⟩ ⟨"RescanDesk$Call", "value", "(I)J"⟩ ∈ aw_tbl := aw_i3 159 rfl rfl
theorem k_702 : Cond.code ⟨"RescanDesk$Call", "value", "(I)J"⟩ prog_4_method_5_code 2 (some .long) ∈ aw_tbl := aw_i3 160 rfl rfl
theorem k_703 : Cond.methodLinkNest "RescanDesk$Call" 44 ⟨"RescanDesk", "valueOf", "([CII)J"⟩ "RescanDesk" ∈ aw_nest := aw_n3 161 rfl rfl
theorem k_704 : Cond.static ⟨"RescanDesk", "valueOf", "([CII)J"⟩ ∈ aw_tbl := aw_i3 162 rfl rfl
theorem k_705 : Cond.code ⟨"RescanDesk", "valueOf", "([CII)J"⟩ prog_1_method_19_code 8 (some .long) ∈ aw_tbl := aw_i3 163 rfl rfl
theorem k_706 : Cond.constantLong "RescanDesk" 210 (10 : Int64) ∈ aw_tbl := aw_i3 164 rfl rfl
theorem k_707 : Cond.methodLink "RescanDesk$Expander" 153 ⟨"RescanDesk$Rows", "choose", "(J)V"⟩ ∈ aw_tbl := aw_i3 165 rfl rfl
theorem k_708 : Cond.instanceMethod ⟨"RescanDesk$Rows", "choose", "(J)V"⟩ ∈ aw_tbl := aw_i3 166 rfl rfl
theorem k_709 : Cond.selects "RescanDesk$Rows" ⟨"RescanDesk$Rows", "choose", "(J)V"⟩ ⟨"RescanDesk$Rows", "choose", "(J)V"⟩ ∈ aw_tbl := aw_i3 167 rfl rfl
theorem k_710 : Cond.code ⟨"RescanDesk$Rows", "choose", "(J)V"⟩ prog_10_method_4_code 3 none ∈ aw_tbl := aw_i3 168 rfl rfl
theorem k_711 : Cond.constantLong "RescanDesk$Rows" 27 (4 : Int64) ∈ aw_tbl := aw_i3 169 rfl rfl
theorem k_712 : Cond.methodLink "RescanDesk$Expander" 158 ⟨"RescanDesk$Expander", "undivert", "(LRescanDesk$Call;)I"⟩ ∈ aw_tbl := aw_i3 170 rfl rfl
theorem k_714 : Cond.instanceMethod ⟨"RescanDesk$Expander", "undivert", "(LRescanDesk$Call;)I"⟩ ∈ aw_tbl := aw_i3 172 rfl rfl
theorem k_715 : Cond.code ⟨"RescanDesk$Expander", "undivert", "(LRescanDesk$Call;)I"⟩ prog_7_method_11_code 4 (some .int) ∈ aw_tbl := aw_i3 173 rfl rfl
theorem k_716 : Cond.methodLink "RescanDesk$Expander" 204 ⟨"RescanDesk$Rows", "pourAll", "(I)Z"⟩ ∈ aw_tbl := aw_i3 174 rfl rfl
theorem k_717 : Cond.instanceMethod ⟨"RescanDesk$Rows", "pourAll", "(I)Z"⟩ ∈ aw_tbl := aw_i3 175 rfl rfl
theorem k_718 : Cond.selects "RescanDesk$Rows" ⟨"RescanDesk$Rows", "pourAll", "(I)Z"⟩ ⟨"RescanDesk$Rows", "pourAll", "(I)Z"⟩ ∈ aw_tbl := aw_i3 176 rfl rfl
theorem k_719 : Cond.code ⟨"RescanDesk$Rows", "pourAll", "(I)Z"⟩ prog_10_method_6_code 3 (some .boolean) ∈ aw_tbl := aw_i3 177 rfl rfl
theorem k_720 : Cond.methodLink "RescanDesk$Rows" 44 ⟨"RescanDesk$Rows", "pour", "(II)Z"⟩ ∈ aw_tbl := aw_i3 178 rfl rfl
theorem k_721 : Cond.instanceMethod ⟨"RescanDesk$Rows", "pour", "(II)Z"⟩ ∈ aw_tbl := aw_i3 179 rfl rfl
theorem k_722 : Cond.selects "RescanDesk$Rows" ⟨"RescanDesk$Rows", "pour", "(II)Z"⟩ ⟨"RescanDesk$Rows", "pour", "(II)Z"⟩ ∈ aw_tbl := aw_i3 180 rfl rfl
theorem k_723 : Cond.code ⟨"RescanDesk$Rows", "pour", "(II)Z"⟩ prog_10_method_5_code 4 (some .boolean) ∈ aw_tbl := aw_i3 181 rfl rfl
theorem k_724 : Cond.methodLink "RescanDesk$Rows" 29 ⟨"RescanDesk$Text", "hasRoomFor", "(LRescanDesk$Text;)Z"⟩ ∈ aw_tbl := aw_i3 182 rfl rfl
theorem k_725 : Cond.instanceMethod ⟨"RescanDesk$Text", "hasRoomFor", "(LRescanDesk$Text;)Z"⟩ ∈ aw_tbl := aw_i3 183 rfl rfl
theorem k_726 : Cond.selects "RescanDesk$Text" ⟨"RescanDesk$Text", "hasRoomFor", "(LRescanDesk$Text;)Z"⟩ ⟨"RescanDesk$Text", "hasRoomFor", "(LRescanDesk$Text;)Z"⟩ ∈ aw_tbl := aw_i3 184 rfl rfl
theorem k_727 : Cond.code ⟨"RescanDesk$Text", "hasRoomFor", "(LRescanDesk$Text;)Z"⟩ prog_12_method_5_code 2 (some .boolean) ∈ aw_tbl := aw_i3 185 rfl rfl
theorem k_728 : Cond.methodLink "RescanDesk$Rows" 40 ⟨"RescanDesk$Text", "addPart", "([CII)Z"⟩ ∈ aw_tbl := aw_i3 186 rfl rfl
theorem k_729 : Cond.constantLong "RescanDesk$Expander" 208 (4 : Int64) ∈ aw_tbl := aw_i3 187 rfl rfl
theorem k_730 : Cond.methodLink "RescanDesk$Expander" 210 ⟨"RescanDesk$Rows", "pour", "(II)Z"⟩ ∈ aw_tbl := aw_i3 188 rfl rfl
theorem k_731 : Cond.methodLink "RescanDesk$Expander" 162 ⟨"RescanDesk$Front", "takeLine", "()V"⟩ ∈ aw_tbl := aw_i3 189 rfl rfl
theorem k_732 : Cond.instanceMethod ⟨"RescanDesk$Front", "takeLine", "()V"⟩ ∈ aw_tbl := aw_i3 190 rfl rfl
theorem k_733 : Cond.selects "RescanDesk$Front" ⟨"RescanDesk$Front", "takeLine", "()V"⟩ ⟨"RescanDesk$Front", "takeLine", "()V"⟩ ∈ aw_tbl := aw_i3 191 rfl rfl
theorem k_734 : Cond.code ⟨"RescanDesk$Front", "takeLine", "()V"⟩ prog_9_method_6_code 1 none ∈ aw_tbl := aw_i3 192 rfl rfl
theorem k_735 : Cond.methodLink "RescanDesk$Expander" 165 ⟨"RescanDesk$Expression", "reckon", "([CIILRescanDesk$Text;)I"⟩ ∈ aw_tbl := aw_i3 193 rfl rfl
theorem k_736 : Cond.instanceMethod ⟨"RescanDesk$Expression", "reckon", "([CIILRescanDesk$Text;)I"⟩ ∈ aw_tbl := aw_i3 194 rfl rfl
theorem k_737 : Cond.selects "RescanDesk$Expression" ⟨"RescanDesk$Expression", "reckon", "([CIILRescanDesk$Text;)I"⟩ ⟨"RescanDesk$Expression", "reckon", "([CIILRescanDesk$Text;)I"⟩ ∈ aw_tbl := aw_i3 195 rfl rfl
theorem k_738 : Cond.code ⟨"RescanDesk$Expression", "reckon", "([CIILRescanDesk$Text;)I"⟩ prog_8_method_2_code 7 (some .int) ∈ aw_tbl := aw_i3 196 rfl rfl
theorem k_739 : Cond.methodLink "RescanDesk$Expression" 31 ⟨"RescanDesk$Text", "empty", "()V"⟩ ∈ aw_tbl := aw_i3 197 rfl rfl
theorem k_740 : Cond.methodLinkNest "RescanDesk$Expression" 34 ⟨"RescanDesk", "isBlank", "(C)Z"⟩ "RescanDesk" ∈ aw_nest := aw_n3 198 rfl rfl
theorem k_741 : Cond.methodLink "RescanDesk$Expression" 38 ⟨"RescanDesk$Text", "add", "(C)Z"⟩ ∈ aw_tbl := aw_i3 199 rfl rfl
theorem k_742 : Cond.methodLink "RescanDesk$Expression" 41 ⟨"RescanDesk$Expression", "level", "(II)J"⟩ ∈ aw_tbl := aw_i3 200 rfl rfl
theorem k_744 : Cond.instanceMethod ⟨"RescanDesk$Expression", "level", "(II)J"⟩ ∈ aw_tbl := aw_i3 202 rfl rfl
theorem k_745 : Cond.code ⟨"RescanDesk$Expression", "level", "(II)J"⟩ prog_8_method_3_code 6 (some .long) ∈ aw_tbl := aw_i3 203 rfl rfl
theorem k_746 : Cond.methodLink "RescanDesk$Expression" 52 ⟨"RescanDesk$Expression", "operand", "(I)J"⟩ ∈ aw_tbl := aw_i3 204 rfl rfl
theorem k_748 : Cond.instanceMethod ⟨"RescanDesk$Expression", "operand", "(I)J"⟩ ∈ aw_tbl := aw_i3 206 rfl rfl
theorem k_749 : Cond.code ⟨"RescanDesk$Expression", "operand", "(I)J"⟩ prog_8_method_4_code 5 (some .long) ∈ aw_tbl := aw_i3 207 rfl rfl
theorem k_750 : Cond.methodLink "RescanDesk$Expression" 68 ⟨"RescanDesk$Expression", "number", "()J"⟩ ∈ aw_tbl := aw_i3 208 rfl rfl
theorem k_752 : Cond.instanceMethod ⟨"RescanDesk$Expression", "number", "()J"⟩ ∈ aw_tbl := aw_i3 210 rfl rfl
theorem k_753 : Cond.code ⟨"RescanDesk$Expression", "number", "()J"⟩ prog_8_method_5_code 4 (some .long) ∈ aw_tbl := aw_i3 211 rfl rfl
theorem k_754 : Cond.methodLinkNest "RescanDesk$Expression" 72 ⟨"RescanDesk", "isDigit", "(C)Z"⟩ "RescanDesk" ∈ aw_nest := aw_n3 212 rfl rfl
theorem k_755 : Cond.constantLong "RescanDesk$Expression" 75 (10 : Int64) ∈ aw_tbl := aw_i3 213 rfl rfl
theorem k_756 : Cond.methodLink "RescanDesk$Expression" 60 ⟨"RescanDesk$Expression", "strengthOf", "(C)I"⟩ ∈ aw_tbl := aw_i3 214 rfl rfl
theorem k_757 : Cond.static ⟨"RescanDesk$Expression", "strengthOf", "(C)I"⟩ ∈ aw_tbl := aw_i3 215 rfl rfl
theorem k_758 : Cond.code ⟨"RescanDesk$Expression", "strengthOf", "(C)I"⟩ prog_8_method_6_code 1 (some .int) ∈ aw_tbl := aw_i3 216 rfl rfl
theorem k_759 : Cond.methodLink "RescanDesk$Expression" 64 ⟨"RescanDesk$Expression", "combine", "(CJJ)J"⟩ ∈ aw_tbl := aw_i3 217 rfl rfl
theorem k_761 : Cond.instanceMethod ⟨"RescanDesk$Expression", "combine", "(CJJ)J"⟩ ∈ aw_tbl := aw_i3 219 rfl rfl
theorem k_762 : Cond.code ⟨"RescanDesk$Expression", "combine", "(CJJ)J"⟩ prog_8_method_7_code 6 (some .long) ∈ aw_tbl := aw_i3 220 rfl rfl
theorem k_763 : Cond.methodLink "RescanDesk$Expression" 77 ⟨"RescanDesk$Expression", "truth", "(Z)J"⟩ ∈ aw_tbl := aw_i3 221 rfl rfl
theorem k_764 : Cond.static ⟨"RescanDesk$Expression", "truth", "(Z)J"⟩ ∈ aw_tbl := aw_i3 222 rfl rfl
theorem k_765 : Cond.code ⟨"RescanDesk$Expression", "truth", "(Z)J"⟩ prog_8_method_9_code 1 (some .long) ∈ aw_tbl := aw_i3 223 rfl rfl
theorem k_766 : Cond.methodLink "RescanDesk$Expression" 81 ⟨"RescanDesk$Expression", "divide", "(CJJ)J"⟩ ∈ aw_tbl := aw_i3 224 rfl rfl
theorem k_768 : Cond.instanceMethod ⟨"RescanDesk$Expression", "divide", "(CJJ)J"⟩ ∈ aw_tbl := aw_i3 226 rfl rfl
theorem k_769 : Cond.code ⟨"RescanDesk$Expression", "divide", "(CJJ)J"⟩ prog_8_method_8_code 6 (some .long) ∈ aw_tbl := aw_i3 227 rfl rfl
theorem k_770 : Cond.methodLink "RescanDesk$Expression" 48 ⟨"RescanDesk$Text", "addNumber", "(J)V"⟩ ∈ aw_tbl := aw_i3 228 rfl rfl
theorem k_771 : Cond.methodLink "RescanDesk$Expander" 62 ⟨"RescanDesk$Expander", "makeText", "(LRescanDesk$Call;LRescanDesk$BuiltIn;)V"⟩ ∈ aw_tbl := aw_i3 229 rfl rfl
theorem k_773 : Cond.instanceMethod ⟨"RescanDesk$Expander", "makeText", "(LRescanDesk$Call;LRescanDesk$BuiltIn;)V"⟩ ∈ aw_tbl := aw_i3 231 rfl rfl
theorem k_774 : Cond.code ⟨"RescanDesk$Expander", "makeText", "(LRescanDesk$Call;LRescanDesk$BuiltIn;)V"⟩ prog_7_method_8_code 3 none ∈ aw_tbl := aw_i3 232 rfl rfl
theorem k_775 : Cond.methodLink "RescanDesk$Expander" 172 ⟨"RescanDesk$Expander", "chosen", "(LRescanDesk$Call;)I"⟩ ∈ aw_tbl := aw_i3 233 rfl rfl
theorem k_777 : Cond.instanceMethod ⟨"RescanDesk$Expander", "chosen", "(LRescanDesk$Call;)I"⟩ ∈ aw_tbl := aw_i3 235 rfl rfl
theorem k_778 : Cond.code ⟨"RescanDesk$Expander", "chosen", "(LRescanDesk$Call;)I"⟩ prog_7_method_12_code 3 (some .int) ∈ aw_tbl := aw_i3 236 rfl rfl
theorem k_779 : Cond.methodLink "RescanDesk$Expander" 214 ⟨"RescanDesk$Call", "isSame", "(II)Z"⟩ ∈ aw_tbl := aw_i3 237 rfl rfl
theorem k_780 : Cond.instanceMethod ⟨"RescanDesk$Call", "isSame", "(II)Z"⟩ ∈ aw_tbl := aw_i3 238 rfl rfl
theorem k_781 : Cond.selects "RescanDesk$Call" ⟨"RescanDesk$Call", "isSame", "(II)Z"⟩ ⟨"RescanDesk$Call", "isSame", "(II)Z"⟩ ∈ aw_tbl := aw_i3 239 rfl rfl
theorem k_782 : Cond.code ⟨"RescanDesk$Call", "isSame", "(II)Z"⟩ prog_4_method_6_code 3 (some .boolean) ∈ aw_tbl := aw_i4 0 rfl rfl
theorem k_783 : Cond.methodLink "RescanDesk$Call" 48 ⟨"RescanDesk$Call", "length", "(I)I"⟩ ∈ aw_tbl := aw_i4 1 rfl rfl
theorem k_784 : Cond.methodLink "RescanDesk$Call" 51 ⟨"RescanDesk$Call", "stands", "(III)Z"⟩ ∈ aw_tbl := aw_i4 2 rfl rfl
theorem k_785 : Cond.instanceMethod ⟨"RescanDesk$Call", "stands", "(III)Z"⟩ ∈ aw_tbl := aw_i4 3 rfl rfl
theorem k_786 : Cond.selects "RescanDesk$Call" ⟨"RescanDesk$Call", "stands", "(III)Z"⟩ ⟨"RescanDesk$Call", "stands", "(III)Z"⟩ ∈ aw_tbl := aw_i4 4 rfl rfl
theorem k_787 : Cond.code ⟨"RescanDesk$Call", "stands", "(III)Z"⟩ prog_4_method_7_code 6 (some .boolean) ∈ aw_tbl := aw_i4 5 rfl rfl
theorem k_788 : Cond.methodLink "RescanDesk$Expander" 177 ⟨"RescanDesk$Expander", "makePart", "(LRescanDesk$Call;)V"⟩ ∈ aw_tbl := aw_i4 6 rfl rfl
theorem k_790 : Cond.instanceMethod ⟨"RescanDesk$Expander", "makePart", "(LRescanDesk$Call;)V"⟩ ∈ aw_tbl := aw_i4 8 rfl rfl
theorem k_791 : Cond.code ⟨"RescanDesk$Expander", "makePart", "(LRescanDesk$Call;)V"⟩ prog_7_method_13_code 8 none ∈ aw_tbl := aw_i4 9 rfl rfl
theorem k_792 : Cond.methodLink "RescanDesk$Expander" 217 ⟨"java/lang/Math", "min", "(JJ)J"⟩ ∈ aw_tbl := aw_i4 10 rfl rfl
theorem k_793 : Cond.static ⟨"java/lang/Math", "min", "(JJ)J"⟩ ∈ aw_tbl := aw_i4 11 rfl rfl
theorem k_794 : Cond.code ⟨"java/lang/Math", "min", "(JJ)J"⟩ prog_19_method_70_code 4 (some .long) ∈ aw_tbl := aw_i4 12 rfl rfl
theorem k_795 : Cond.methodLink "RescanDesk$Expander" 223 ⟨"java/lang/Math", "max", "(JJ)J"⟩ ∈ aw_tbl := aw_i4 13 rfl rfl
theorem k_796 : Cond.static ⟨"java/lang/Math", "max", "(JJ)J"⟩ ∈ aw_tbl := aw_i4 14 rfl rfl
theorem k_797 : Cond.code ⟨"java/lang/Math", "max", "(JJ)J"⟩ prog_19_method_66_code 4 (some .long) ∈ aw_tbl := aw_i4 15 rfl rfl
theorem k_798 : Cond.methodLink "RescanDesk$Expander" 180 ⟨"RescanDesk$Expander", "index", "(LRescanDesk$Call;)I"⟩ ∈ aw_tbl := aw_i4 16 rfl rfl
theorem k_800 : Cond.instanceMethod ⟨"RescanDesk$Expander", "index", "(LRescanDesk$Call;)I"⟩ ∈ aw_tbl := aw_i4 18 rfl rfl
theorem k_801 : Cond.code ⟨"RescanDesk$Expander", "index", "(LRescanDesk$Call;)I"⟩ prog_7_method_14_code 3 (some .int) ∈ aw_tbl := aw_i4 19 rfl rfl
theorem k_802 : Cond.methodLink "RescanDesk$Expander" 226 ⟨"RescanDesk$Call", "stands", "(III)Z"⟩ ∈ aw_tbl := aw_i4 20 rfl rfl
theorem k_803 : Cond.methodLink "RescanDesk$Expander" 66 ⟨"RescanDesk$Front", "putBefore", "(LRescanDesk$Text;)Z"⟩ ∈ aw_tbl := aw_i4 21 rfl rfl
theorem k_804 : Cond.methodLink "RescanDesk" 89 ⟨"RescanDesk", "finish", "()I"⟩ ∈ aw_tbl := aw_i4 22 rfl rfl
theorem k_806 : Cond.instanceMethod ⟨"RescanDesk", "finish", "()I"⟩ ∈ aw_tbl := aw_i4 24 rfl rfl
theorem k_807 : Cond.code ⟨"RescanDesk", "finish", "()I"⟩ prog_1_method_8_code 1 (some .int) ∈ aw_tbl := aw_i4 25 rfl rfl
theorem k_808 : Cond.methodLink "RescanDesk" 124 ⟨"RescanDesk$Rows", "join", "()Z"⟩ ∈ aw_tbl := aw_i4 26 rfl rfl
theorem k_809 : Cond.instanceMethod ⟨"RescanDesk$Rows", "join", "()Z"⟩ ∈ aw_tbl := aw_i4 27 rfl rfl
theorem k_810 : Cond.selects "RescanDesk$Rows" ⟨"RescanDesk$Rows", "join", "()Z"⟩ ⟨"RescanDesk$Rows", "join", "()Z"⟩ ∈ aw_tbl := aw_i4 28 rfl rfl
theorem k_811 : Cond.code ⟨"RescanDesk$Rows", "join", "()Z"⟩ prog_10_method_7_code 1 (some .boolean) ∈ aw_tbl := aw_i4 29 rfl rfl
theorem k_812 : Cond.methodLink "RescanDesk$Rows" 48 ⟨"RescanDesk$Rows", "pourAll", "(I)Z"⟩ ∈ aw_tbl := aw_i4 30 rfl rfl
theorem k_813 : Cond.methodLink "RescanDeskLaw" 44 ⟨"RescanDeskLaw", "output", "(LRescanDesk;II[J)I"⟩ ∈ aw_tbl := aw_i4 31 rfl rfl
theorem k_814 : Cond.static ⟨"RescanDeskLaw", "output", "(LRescanDesk;II[J)I"⟩ ∈ aw_tbl := aw_i4 32 rfl rfl
theorem k_816 : Cond.classLink "RescanDeskLaw" 19 "java/lang/IndexOutOfBoundsException" ∈ aw_tbl := aw_i4 34 rfl rfl
theorem k_817 : Cond.methodLink "RescanDeskLaw" 15 ⟨"RescanDesk", "output", "(II)C"⟩ ∈ aw_tbl := aw_i4 35 rfl rfl
theorem k_818 : Cond.instanceMethod ⟨"RescanDesk", "output", "(II)C"⟩ ∈ aw_tbl := aw_i4 36 rfl rfl
theorem k_819 : Cond.selects "RescanDesk" ⟨"RescanDesk", "output", "(II)C"⟩ ⟨"RescanDesk", "output", "(II)C"⟩ ∈ aw_tbl := aw_i4 37 rfl rfl
theorem k_820 : Cond.code ⟨"RescanDesk", "output", "(II)C"⟩ prog_1_method_5_code 4 (some .char) ∈ aw_tbl := aw_i4 38 rfl rfl
theorem k_821 : Cond.classLink "RescanDesk" 96 "java/lang/IndexOutOfBoundsException" ∈ aw_tbl := aw_i4 39 rfl rfl
theorem k_822 : Cond.instantiable "java/lang/IndexOutOfBoundsException" 6 ∈ aw_tbl := aw_i4 40 rfl rfl
theorem k_824 : Cond.selects "java/lang/IndexOutOfBoundsException" ⟨"java/lang/Throwable", "fillInStackTrace", "(I)Ljava/lang/Throwable;"⟩ ⟨"java/lang/Throwable", "fillInStackTrace", "(I)Ljava/lang/Throwable;"⟩ ∈ aw_tbl := aw_i4 42 rfl rfl
theorem k_830 : Cond.methodLink "RescanDesk" 98 ⟨"java/lang/IndexOutOfBoundsException", "<init>", "()V"⟩ ∈ aw_tbl := aw_i4 48 rfl rfl
theorem k_831 : Cond.instanceMethod ⟨"java/lang/IndexOutOfBoundsException", "<init>", "()V"⟩ ∈ aw_tbl := aw_i4 49 rfl rfl
theorem k_832 : Cond.code ⟨"java/lang/IndexOutOfBoundsException", "<init>", "()V"⟩ prog_18_method_1_code 1 none ∈ aw_tbl := aw_i4 50 rfl rfl
theorem k_833 : Cond.methodLink "java/lang/IndexOutOfBoundsException" 1 ⟨"java/lang/RuntimeException", "<init>", "()V"⟩ ∈ aw_tbl := aw_i4 51 rfl rfl
theorem k_836 : Cond.classLink "RescanDeskLaw" 22 "RescanDeskModel" ∈ aw_tbl := aw_i4 54 rfl rfl
theorem k_837 : Cond.instantiable "RescanDeskModel" 38 ∈ aw_tbl := aw_i4 55 rfl rfl
theorem k_838 : Cond.methodLink "RescanDeskLaw" 24 ⟨"RescanDeskModel", "<init>", "()V"⟩ ∈ aw_tbl := aw_i4 56 rfl rfl
theorem k_839 : Cond.instanceMethod ⟨"RescanDeskModel", "<init>", "()V"⟩ ∈ aw_tbl := aw_i4 57 rfl rfl
theorem k_840 : Cond.code ⟨"RescanDeskModel", "<init>", "()V"⟩ prog_14_method_1_code 1 none ∈ aw_tbl := aw_i4 58 rfl rfl
theorem k_841 : Cond.methodLink "RescanDeskModel" 1 ⟨"java/lang/Object", "<init>", "()V"⟩ ∈ aw_tbl := aw_i4 59 rfl rfl
theorem k_842 : Cond.constantLong "RescanDeskModel" 82 (111524889126244 : Int64) ∈ aw_tbl := aw_i4 60 rfl rfl
theorem k_843 : Cond.methodLink "RescanDeskModel" 84 ⟨"RescanDeskModel", "built", "(JI)V"⟩ ∈ aw_tbl := aw_i4 61 rfl rfl
theorem k_845 : Cond.instanceMethod ⟨"RescanDeskModel", "built", "(JI)V"⟩ ∈ aw_tbl := aw_i4 63 rfl rfl
theorem k_846 : Cond.code ⟨"RescanDeskModel", "built", "(JI)V"⟩ prog_14_method_2_code 7 none ∈ aw_tbl := aw_i4 64 rfl rfl
theorem k_847 : Cond.constantLong "RescanDeskModel" 122 (255 : Int64) ∈ aw_tbl := aw_i4 65 rfl rfl
theorem k_848 : Cond.constantLong "RescanDeskModel" 88 (28821929548019056 : Int64) ∈ aw_tbl := aw_i4 66 rfl rfl
theorem k_849 : Cond.constantLong "RescanDeskModel" 90 (112585662820208 : Int64) ∈ aw_tbl := aw_i4 67 rfl rfl
theorem k_850 : Cond.constantLong "RescanDeskModel" 92 (7308895133777555061 : Int64) ∈ aw_tbl := aw_i4 68 rfl rfl
theorem k_851 : Cond.constantLong "RescanDeskModel" 94 (439787742825 : Int64) ∈ aw_tbl := aw_i4 69 rfl rfl
theorem k_852 : Cond.constantLong "RescanDeskModel" 96 (111546414229097 : Int64) ∈ aw_tbl := aw_i4 70 rfl rfl
theorem k_853 : Cond.constantLong "RescanDeskModel" 98 (1919118953 : Int64) ∈ aw_tbl := aw_i4 71 rfl rfl
theorem k_854 : Cond.constantLong "RescanDeskModel" 100 (1818326629 : Int64) ∈ aw_tbl := aw_i4 72 rfl rfl
theorem k_855 : Cond.constantLong "RescanDeskModel" 102 (7234924 : Int64) ∈ aw_tbl := aw_i4 73 rfl rfl
theorem k_856 : Cond.constantLong "RescanDeskModel" 104 (125844477605235 : Int64) ∈ aw_tbl := aw_i4 74 rfl rfl
theorem k_857 : Cond.constantLong "RescanDeskModel" 106 (517097156201 : Int64) ∈ aw_tbl := aw_i4 75 rfl rfl
theorem k_858 : Cond.constantLong "RescanDeskModel" 108 (499934390387 : Int64) ∈ aw_tbl := aw_i4 76 rfl rfl
theorem k_859 : Cond.constantLong "RescanDeskModel" 110 (128034677352804 : Int64) ∈ aw_tbl := aw_i4 77 rfl rfl
theorem k_860 : Cond.constantLong "RescanDeskModel" 112 (8390880614993391221 : Int64) ∈ aw_tbl := aw_i4 78 rfl rfl
theorem k_861 : Cond.constantLong "RescanDeskModel" 114 (120351131855204 : Int64) ∈ aw_tbl := aw_i4 79 rfl rfl
theorem k_862 : Cond.constantLong "RescanDeskModel" 116 (7106148 : Int64) ∈ aw_tbl := aw_i4 80 rfl rfl
theorem k_863 : Cond.fieldLink "RescanDeskModel" 124 "RescanDeskModel" "code" "I" ∈ aw_tbl := aw_i4 81 rfl rfl
theorem k_864 : Cond.fieldLink "RescanDeskModel" 130 "RescanDeskModel" "typed" "I" ∈ aw_tbl := aw_i4 82 rfl rfl
theorem k_865 : Cond.fieldLink "RescanDeskModel" 7 "RescanDeskModel" "text" "[C" ∈ aw_tbl := aw_i4 83 rfl rfl
theorem k_866 : Cond.fieldLink "RescanDeskModel" 150 "RescanDeskModel" "size" "I" ∈ aw_tbl := aw_i4 84 rfl rfl
theorem k_867 : Cond.fieldLink "RescanDeskModel" 13 "RescanDeskModel" "front" "[C" ∈ aw_tbl := aw_i4 85 rfl rfl
theorem k_868 : Cond.fieldLink "RescanDeskModel" 118 "RescanDeskModel" "definitions" "I" ∈ aw_tbl := aw_i4 86 rfl rfl
theorem k_869 : Cond.fieldLink "RescanDeskModel" 16 "RescanDeskModel" "names" "[C" ∈ aw_tbl := aw_i4 87 rfl rfl
theorem k_870 : Cond.fieldLink "RescanDeskModel" 19 "RescanDeskModel" "nameSizes" "[I" ∈ aw_tbl := aw_i4 88 rfl rfl
theorem k_871 : Cond.fieldLink "RescanDeskModel" 23 "RescanDeskModel" "kinds" "[I" ∈ aw_tbl := aw_i4 89 rfl rfl
theorem k_872 : Cond.fieldLink "RescanDeskModel" 26 "RescanDeskModel" "bodies" "[C" ∈ aw_tbl := aw_i4 90 rfl rfl
theorem k_873 : Cond.fieldLink "RescanDeskModel" 29 "RescanDeskModel" "bodySizes" "[I" ∈ aw_tbl := aw_i4 91 rfl rfl
theorem k_874 : Cond.fieldLink "RescanDeskModel" 137 "RescanDeskModel" "open" "I" ∈ aw_tbl := aw_i4 92 rfl rfl
theorem k_875 : Cond.fieldLink "RescanDeskModel" 32 "RescanDeskModel" "callNames" "[C" ∈ aw_tbl := aw_i4 93 rfl rfl
theorem k_876 : Cond.fieldLink "RescanDeskModel" 35 "RescanDeskModel" "callNameSizes" "[I" ∈ aw_tbl := aw_i4 94 rfl rfl
theorem k_877 : Cond.fieldLink "RescanDeskModel" 38 "RescanDeskModel" "callKinds" "[I" ∈ aw_tbl := aw_i4 95 rfl rfl
theorem k_878 : Cond.fieldLink "RescanDeskModel" 41 "RescanDeskModel" "callBodies" "[C" ∈ aw_tbl := aw_i4 96 rfl rfl
theorem k_879 : Cond.fieldLink "RescanDeskModel" 44 "RescanDeskModel" "callBodySizes" "[I" ∈ aw_tbl := aw_i4 97 rfl rfl
theorem k_880 : Cond.fieldLink "RescanDeskModel" 47 "RescanDeskModel" "many" "[I" ∈ aw_tbl := aw_i4 98 rfl rfl
theorem k_881 : Cond.fieldLink "RescanDeskModel" 50 "RescanDeskModel" "begins" "[I" ∈ aw_tbl := aw_i4 99 rfl rfl
theorem k_882 : Cond.fieldLink "RescanDeskModel" 53 "RescanDeskModel" "depths" "[I" ∈ aw_tbl := aw_i4 100 rfl rfl
theorem k_883 : Cond.fieldLink "RescanDeskModel" 56 "RescanDeskModel" "seen" "[Z" ∈ aw_tbl := aw_i4 101 rfl rfl
theorem k_884 : Cond.fieldLink "RescanDeskModel" 140 "RescanDeskModel" "written" "I" ∈ aw_tbl := aw_i4 102 rfl rfl
theorem k_885 : Cond.fieldLink "RescanDeskModel" 60 "RescanDeskModel" "arguments" "[C" ∈ aw_tbl := aw_i4 103 rfl rfl
theorem k_886 : Cond.fieldLink "RescanDeskModel" 63 "RescanDeskModel" "rows" "[C" ∈ aw_tbl := aw_i4 104 rfl rfl
theorem k_887 : Cond.fieldLink "RescanDeskModel" 66 "RescanDeskModel" "rowSizes" "[I" ∈ aw_tbl := aw_i4 105 rfl rfl
theorem k_888 : Cond.fieldLink "RescanDeskModel" 147 "RescanDeskModel" "present" "I" ∈ aw_tbl := aw_i4 106 rfl rfl
theorem k_889 : Cond.fieldLink "RescanDeskModel" 217 "RescanDeskModel" "made" "I" ∈ aw_tbl := aw_i4 107 rfl rfl
theorem k_890 : Cond.fieldLink "RescanDeskModel" 69 "RescanDeskModel" "making" "[C" ∈ aw_tbl := aw_i4 108 rfl rfl
theorem k_891 : Cond.fieldLink "RescanDeskModel" 127 "RescanDeskModel" "error" "I" ∈ aw_tbl := aw_i4 109 rfl rfl
theorem k_892 : Cond.fieldLink "RescanDeskModel" 157 "RescanDeskModel" "steps" "I" ∈ aw_tbl := aw_i4 110 rfl rfl
theorem k_893 : Cond.fieldLink "RescanDeskModel" 160 "RescanDeskModel" "most" "I" ∈ aw_tbl := aw_i4 111 rfl rfl
theorem k_894 : Cond.fieldLink "RescanDeskModel" 282 "RescanDeskModel" "todo" "I" ∈ aw_tbl := aw_i4 112 rfl rfl
theorem k_895 : Cond.fieldLink "RescanDeskModel" 72 "RescanDeskModel" "operators" "[I" ∈ aw_tbl := aw_i4 113 rfl rfl
theorem k_896 : Cond.fieldLink "RescanDeskModel" 288 "RescanDeskModel" "numbers" "I" ∈ aw_tbl := aw_i4 114 rfl rfl
theorem k_897 : Cond.fieldLink "RescanDeskModel" 75 "RescanDeskModel" "values" "[J" ∈ aw_tbl := aw_i4 115 rfl rfl
theorem k_898 : Cond.fieldLink "RescanDeskModel" 294 "RescanDeskModel" "nested" "I" ∈ aw_tbl := aw_i4 116 rfl rfl
theorem k_899 : Cond.fieldLink "RescanDeskModel" 278 "RescanDeskModel" "zero" "Z" ∈ aw_tbl := aw_i4 117 rfl rfl
theorem k_900 : Cond.fieldLink "RescanDeskModel" 79 "RescanDeskModel" "plain" "[C" ∈ aw_tbl := aw_i4 118 rfl rfl
theorem k_978 : Cond.arrayClass .boolean ∈ aw_tbl := aw_i4 196 rfl rfl
theorem k_979 : Cond.arrayClass .long ∈ aw_tbl := aw_i4 197 rfl rfl
theorem k_980 : Cond.methodLink "RescanDeskLaw" 41 ⟨"RescanDeskModel", "thrown", "()I"⟩ ∈ aw_tbl := aw_i4 198 rfl rfl
theorem k_981 : Cond.instanceMethod ⟨"RescanDeskModel", "thrown", "()I"⟩ ∈ aw_tbl := aw_i4 199 rfl rfl
theorem k_982 : Cond.selects "RescanDeskModel" ⟨"RescanDeskModel", "thrown", "()I"⟩ ⟨"RescanDeskModel", "thrown", "()I"⟩ ∈ aw_tbl := aw_i4 200 rfl rfl
theorem k_983 : Cond.code ⟨"RescanDeskModel", "thrown", "()I"⟩ prog_14_method_3_code 1 (some .int) ∈ aw_tbl := aw_i4 201 rfl rfl
theorem k_984 : Cond.methodLink "RescanDeskLaw" 29 ⟨"RescanDeskModel", "type", "(C)Z"⟩ ∈ aw_tbl := aw_i4 202 rfl rfl
theorem k_985 : Cond.instanceMethod ⟨"RescanDeskModel", "type", "(C)Z"⟩ ∈ aw_tbl := aw_i4 203 rfl rfl
theorem k_986 : Cond.selects "RescanDeskModel" ⟨"RescanDeskModel", "type", "(C)Z"⟩ ⟨"RescanDeskModel", "type", "(C)Z"⟩ ∈ aw_tbl := aw_i4 204 rfl rfl
theorem k_987 : Cond.code ⟨"RescanDeskModel", "type", "(C)Z"⟩ prog_14_method_7_code 2 (some .boolean) ∈ aw_tbl := aw_i4 205 rfl rfl
theorem k_988 : Cond.methodLink "RescanDeskLaw" 34 ⟨"RescanDeskModel", "clear", "()I"⟩ ∈ aw_tbl := aw_i4 206 rfl rfl
theorem k_989 : Cond.instanceMethod ⟨"RescanDeskModel", "clear", "()I"⟩ ∈ aw_tbl := aw_i4 207 rfl rfl
theorem k_990 : Cond.selects "RescanDeskModel" ⟨"RescanDeskModel", "clear", "()I"⟩ ⟨"RescanDeskModel", "clear", "()I"⟩ ∈ aw_tbl := aw_i4 208 rfl rfl
theorem k_991 : Cond.code ⟨"RescanDeskModel", "clear", "()I"⟩ prog_14_method_8_code 2 (some .int) ∈ aw_tbl := aw_i4 209 rfl rfl
theorem k_992 : Cond.methodLink "RescanDeskLaw" 47 ⟨"RescanDeskModel", "output", "(II)C"⟩ ∈ aw_tbl := aw_i4 210 rfl rfl
theorem k_993 : Cond.instanceMethod ⟨"RescanDeskModel", "output", "(II)C"⟩ ∈ aw_tbl := aw_i4 211 rfl rfl
theorem k_994 : Cond.selects "RescanDeskModel" ⟨"RescanDeskModel", "output", "(II)C"⟩ ⟨"RescanDeskModel", "output", "(II)C"⟩ ∈ aw_tbl := aw_i4 212 rfl rfl
theorem k_995 : Cond.code ⟨"RescanDeskModel", "output", "(II)C"⟩ prog_14_method_9_code 3 (some .char) ∈ aw_tbl := aw_i4 213 rfl rfl
theorem k_996 : Cond.methodLink "RescanDeskModel" 133 ⟨"RescanDeskModel", "in", "(III)Z"⟩ ∈ aw_tbl := aw_i4 214 rfl rfl
theorem k_997 : Cond.static ⟨"RescanDeskModel", "in", "(III)Z"⟩ ∈ aw_tbl := aw_i4 215 rfl rfl
theorem k_998 : Cond.code ⟨"RescanDeskModel", "in", "(III)Z"⟩ prog_14_method_5_code 3 (some .boolean) ∈ aw_tbl := aw_i4 216 rfl rfl
theorem k_999 : Cond.methodLink "RescanDeskLaw" 40 ⟨"RescanDeskModel", "run", "(I)I"⟩ ∈ aw_tbl := aw_i4 217 rfl rfl
theorem k_1000 : Cond.instanceMethod ⟨"RescanDeskModel", "run", "(I)I"⟩ ∈ aw_tbl := aw_i4 218 rfl rfl
theorem k_1001 : Cond.selects "RescanDeskModel" ⟨"RescanDeskModel", "run", "(I)I"⟩ ⟨"RescanDeskModel", "run", "(I)I"⟩ ∈ aw_tbl := aw_i4 219 rfl rfl
theorem k_1002 : Cond.code ⟨"RescanDeskModel", "run", "(I)I"⟩ prog_14_method_17_code 3 (some .int) ∈ aw_tbl := aw_i4 220 rfl rfl
theorem k_1003 : Cond.methodLink "RescanDeskModel" 143 ⟨"RescanDeskModel", "stop", "(I)V"⟩ ∈ aw_tbl := aw_i4 221 rfl rfl
theorem k_1005 : Cond.instanceMethod ⟨"RescanDeskModel", "stop", "(I)V"⟩ ∈ aw_tbl := aw_i4 223 rfl rfl
theorem k_1006 : Cond.code ⟨"RescanDeskModel", "stop", "(I)V"⟩ prog_14_method_6_code 2 none ∈ aw_tbl := aw_i4 224 rfl rfl
theorem k_1007 : Cond.methodLink "RescanDeskModel" 163 ⟨"RescanDeskModel", "step", "()V"⟩ ∈ aw_tbl := aw_i4 225 rfl rfl
theorem k_1009 : Cond.instanceMethod ⟨"RescanDeskModel", "step", "()V"⟩ ∈ aw_tbl := aw_i4 227 rfl rfl
theorem k_1010 : Cond.code ⟨"RescanDeskModel", "step", "()V"⟩ prog_14_method_18_code 2 none ∈ aw_tbl := aw_i4 228 rfl rfl
theorem k_1011 : Cond.methodLink "RescanDeskModel" 170 ⟨"RescanDeskModel", "next", "(I)I"⟩ ∈ aw_tbl := aw_i4 229 rfl rfl
theorem k_1013 : Cond.instanceMethod ⟨"RescanDeskModel", "next", "(I)I"⟩ ∈ aw_tbl := aw_i4 231 rfl rfl
theorem k_1014 : Cond.code ⟨"RescanDeskModel", "next", "(I)I"⟩ prog_14_method_14_code 2 (some .int) ∈ aw_tbl := aw_i4 232 rfl rfl
theorem k_1015 : Cond.methodLink "RescanDeskModel" 174 ⟨"RescanDeskModel", "quoted", "()V"⟩ ∈ aw_tbl := aw_i4 233 rfl rfl
theorem k_1017 : Cond.instanceMethod ⟨"RescanDeskModel", "quoted", "()V"⟩ ∈ aw_tbl := aw_i4 235 rfl rfl
theorem k_1018 : Cond.code ⟨"RescanDeskModel", "quoted", "()V"⟩ prog_14_method_19_code 5 none ∈ aw_tbl := aw_i4 236 rfl rfl
theorem k_1019 : Cond.methodLink "RescanDeskModel" 188 ⟨"RescanDeskModel", "write", "(C)V"⟩ ∈ aw_tbl := aw_i4 237 rfl rfl
theorem k_1021 : Cond.instanceMethod ⟨"RescanDeskModel", "write", "(C)V"⟩ ∈ aw_tbl := aw_i4 239 rfl rfl
theorem k_1022 : Cond.code ⟨"RescanDeskModel", "write", "(C)V"⟩ prog_14_method_10_code 2 none ∈ aw_tbl := aw_i5 0 rfl rfl
theorem k_1023 : Cond.methodLink "RescanDeskModel" 177 ⟨"RescanDeskModel", "isLetter", "(I)Z"⟩ ∈ aw_tbl := aw_i5 1 rfl rfl
theorem k_1024 : Cond.static ⟨"RescanDeskModel", "isLetter", "(I)Z"⟩ ∈ aw_tbl := aw_i5 2 rfl rfl
theorem k_1025 : Cond.code ⟨"RescanDeskModel", "isLetter", "(I)Z"⟩ prog_14_method_12_code 1 (some .boolean) ∈ aw_tbl := aw_i5 3 rfl rfl
theorem k_1026 : Cond.methodLink "RescanDeskModel" 181 ⟨"RescanDeskModel", "named", "()V"⟩ ∈ aw_tbl := aw_i5 4 rfl rfl
theorem k_1028 : Cond.instanceMethod ⟨"RescanDeskModel", "named", "()V"⟩ ∈ aw_tbl := aw_i5 6 rfl rfl
theorem k_1029 : Cond.code ⟨"RescanDeskModel", "named", "()V"⟩ prog_14_method_20_code 5 none ∈ aw_tbl := aw_i5 7 rfl rfl
theorem k_1030 : Cond.methodLink "RescanDeskModel" 191 ⟨"RescanDeskModel", "isDigit", "(I)Z"⟩ ∈ aw_tbl := aw_i5 8 rfl rfl
theorem k_1031 : Cond.static ⟨"RescanDeskModel", "isDigit", "(I)Z"⟩ ∈ aw_tbl := aw_i5 9 rfl rfl
theorem k_1032 : Cond.code ⟨"RescanDeskModel", "isDigit", "(I)Z"⟩ prog_14_method_13_code 1 (some .boolean) ∈ aw_tbl := aw_i5 10 rfl rfl
theorem k_1033 : Cond.methodLink "RescanDeskModel" 194 ⟨"RescanDeskModel", "find", "([CII)I"⟩ ∈ aw_tbl := aw_i5 11 rfl rfl
theorem k_1035 : Cond.instanceMethod ⟨"RescanDeskModel", "find", "([CII)I"⟩ ∈ aw_tbl := aw_i5 13 rfl rfl
theorem k_1036 : Cond.code ⟨"RescanDeskModel", "find", "([CII)I"⟩ prog_14_method_16_code 6 (some .int) ∈ aw_tbl := aw_i5 14 rfl rfl
theorem k_1037 : Cond.methodLink "RescanDeskModel" 153 ⟨"RescanDeskModel", "isNamed", "(I[CII)Z"⟩ ∈ aw_tbl := aw_i5 15 rfl rfl
theorem k_1039 : Cond.instanceMethod ⟨"RescanDeskModel", "isNamed", "(I[CII)Z"⟩ ∈ aw_tbl := aw_i5 17 rfl rfl
theorem k_1040 : Cond.code ⟨"RescanDeskModel", "isNamed", "(I[CII)Z"⟩ prog_14_method_15_code 7 (some .boolean) ∈ aw_tbl := aw_i5 18 rfl rfl
theorem k_1041 : Cond.methodLink "RescanDeskModel" 198 ⟨"RescanDeskModel", "begin", "(II)V"⟩ ∈ aw_tbl := aw_i5 19 rfl rfl
theorem k_1043 : Cond.instanceMethod ⟨"RescanDeskModel", "begin", "(II)V"⟩ ∈ aw_tbl := aw_i5 21 rfl rfl
theorem k_1044 : Cond.code ⟨"RescanDeskModel", "begin", "(II)V"⟩ prog_14_method_21_code 4 none ∈ aw_tbl := aw_i5 22 rfl rfl
theorem k_1045 : Cond.methodLink "RescanDeskModel" 201 ⟨"RescanDeskModel", "expand", "()V"⟩ ∈ aw_tbl := aw_i5 23 rfl rfl
theorem k_1047 : Cond.instanceMethod ⟨"RescanDeskModel", "expand", "()V"⟩ ∈ aw_tbl := aw_i5 25 rfl rfl
theorem k_1048 : Cond.code ⟨"RescanDeskModel", "expand", "()V"⟩ prog_14_method_33_code 2 none ∈ aw_tbl := aw_i5 26 rfl rfl
theorem k_1049 : Cond.methodLink "RescanDeskModel" 226 ⟨"RescanDeskModel", "putBody", "()V"⟩ ∈ aw_tbl := aw_i5 27 rfl rfl
theorem k_1051 : Cond.instanceMethod ⟨"RescanDeskModel", "putBody", "()V"⟩ ∈ aw_tbl := aw_i5 29 rfl rfl
theorem k_1052 : Cond.code ⟨"RescanDeskModel", "putBody", "()V"⟩ prog_14_method_34_code 7 none ∈ aw_tbl := aw_i5 30 rfl rfl
theorem k_1053 : Cond.methodLink "RescanDeskModel" 220 ⟨"RescanDeskModel", "put", "(C)V"⟩ ∈ aw_tbl := aw_i5 31 rfl rfl
theorem k_1055 : Cond.instanceMethod ⟨"RescanDeskModel", "put", "(C)V"⟩ ∈ aw_tbl := aw_i5 33 rfl rfl
theorem k_1056 : Cond.code ⟨"RescanDeskModel", "put", "(C)V"⟩ prog_14_method_29_code 2 none ∈ aw_tbl := aw_i5 34 rfl rfl
theorem k_1057 : Cond.methodLink "RescanDeskModel" 232 ⟨"RescanDeskModel", "putNumber", "(J)V"⟩ ∈ aw_tbl := aw_i5 35 rfl rfl
theorem k_1059 : Cond.instanceMethod ⟨"RescanDeskModel", "putNumber", "(J)V"⟩ ∈ aw_tbl := aw_i5 37 rfl rfl
theorem k_1060 : Cond.code ⟨"RescanDeskModel", "putNumber", "(J)V"⟩ prog_14_method_32_code 9 none ∈ aw_tbl := aw_i5 38 rfl rfl
theorem k_1061 : Cond.constantLong "RescanDeskModel" 213 (10 : Int64) ∈ aw_tbl := aw_i5 39 rfl rfl
theorem k_1062 : Cond.constantLong "RescanDeskModel" 215 (48 : Int64) ∈ aw_tbl := aw_i5 40 rfl rfl
theorem k_1063 : Cond.methodLink "RescanDeskModel" 236 ⟨"RescanDeskModel", "putAll", "(IZ)V"⟩ ∈ aw_tbl := aw_i5 41 rfl rfl
theorem k_1065 : Cond.instanceMethod ⟨"RescanDeskModel", "putAll", "(IZ)V"⟩ ∈ aw_tbl := aw_i5 43 rfl rfl
theorem k_1066 : Cond.code ⟨"RescanDeskModel", "putAll", "(IZ)V"⟩ prog_14_method_31_code 4 none ∈ aw_tbl := aw_i5 44 rfl rfl
theorem k_1067 : Cond.methodLink "RescanDeskModel" 223 ⟨"RescanDeskModel", "putArgument", "(I)V"⟩ ∈ aw_tbl := aw_i5 45 rfl rfl
theorem k_1069 : Cond.instanceMethod ⟨"RescanDeskModel", "putArgument", "(I)V"⟩ ∈ aw_tbl := aw_i5 47 rfl rfl
theorem k_1070 : Cond.code ⟨"RescanDeskModel", "putArgument", "(I)V"⟩ prog_14_method_30_code 3 none ∈ aw_tbl := aw_i5 48 rfl rfl
theorem k_1071 : Cond.methodLink "RescanDeskModel" 207 ⟨"RescanDeskModel", "length", "(I)I"⟩ ∈ aw_tbl := aw_i5 49 rfl rfl
theorem k_1073 : Cond.instanceMethod ⟨"RescanDeskModel", "length", "(I)I"⟩ ∈ aw_tbl := aw_i5 51 rfl rfl
theorem k_1074 : Cond.code ⟨"RescanDeskModel", "length", "(I)I"⟩ prog_14_method_25_code 2 (some .int) ∈ aw_tbl := aw_i5 52 rfl rfl
theorem k_1075 : Cond.methodLink "RescanDeskModel" 210 ⟨"RescanDeskModel", "from", "(I)I"⟩ ∈ aw_tbl := aw_i5 53 rfl rfl
theorem k_1077 : Cond.instanceMethod ⟨"RescanDeskModel", "from", "(I)I"⟩ ∈ aw_tbl := aw_i5 55 rfl rfl
theorem k_1078 : Cond.code ⟨"RescanDeskModel", "from", "(I)I"⟩ prog_14_method_24_code 2 (some .int) ∈ aw_tbl := aw_i5 56 rfl rfl
theorem k_1079 : Cond.methodLink "RescanDeskModel" 229 ⟨"RescanDeskModel", "carryOut", "(I)V"⟩ ∈ aw_tbl := aw_i5 57 rfl rfl
theorem k_1081 : Cond.instanceMethod ⟨"RescanDeskModel", "carryOut", "(I)V"⟩ ∈ aw_tbl := aw_i5 59 rfl rfl
theorem k_1082 : Cond.code ⟨"RescanDeskModel", "carryOut", "(I)V"⟩ prog_14_method_35_code 3 none ∈ aw_tbl := aw_i5 60 rfl rfl
theorem k_1083 : Cond.methodLink "RescanDeskModel" 240 ⟨"RescanDeskModel", "define", "(Z)V"⟩ ∈ aw_tbl := aw_i5 61 rfl rfl
theorem k_1085 : Cond.instanceMethod ⟨"RescanDeskModel", "define", "(Z)V"⟩ ∈ aw_tbl := aw_i5 63 rfl rfl
theorem k_1086 : Cond.code ⟨"RescanDeskModel", "define", "(Z)V"⟩ prog_14_method_36_code 5 none ∈ aw_tbl := aw_i5 64 rfl rfl
theorem k_1087 : Cond.methodLink "RescanDeskModel" 247 ⟨"RescanDeskModel", "isName", "(I)Z"⟩ ∈ aw_tbl := aw_i5 65 rfl rfl
theorem k_1089 : Cond.instanceMethod ⟨"RescanDeskModel", "isName", "(I)Z"⟩ ∈ aw_tbl := aw_i5 67 rfl rfl
theorem k_1090 : Cond.code ⟨"RescanDeskModel", "isName", "(I)Z"⟩ prog_14_method_27_code 4 (some .boolean) ∈ aw_tbl := aw_i5 68 rfl rfl
theorem k_1091 : Cond.methodLink "RescanDeskModel" 244 ⟨"RescanDeskModel", "undefine", "(Z)V"⟩ ∈ aw_tbl := aw_i5 69 rfl rfl
theorem k_1093 : Cond.instanceMethod ⟨"RescanDeskModel", "undefine", "(Z)V"⟩ ∈ aw_tbl := aw_i5 71 rfl rfl
theorem k_1094 : Cond.code ⟨"RescanDeskModel", "undefine", "(Z)V"⟩ prog_14_method_37_code 4 none ∈ aw_tbl := aw_i5 72 rfl rfl
theorem k_1095 : Cond.methodLink "RescanDeskModel" 269 ⟨"RescanDeskModel", "move", "(II)V"⟩ ∈ aw_tbl := aw_i5 73 rfl rfl
theorem k_1097 : Cond.instanceMethod ⟨"RescanDeskModel", "move", "(II)V"⟩ ∈ aw_tbl := aw_i5 75 rfl rfl
theorem k_1098 : Cond.code ⟨"RescanDeskModel", "move", "(II)V"⟩ prog_14_method_38_code 4 none ∈ aw_tbl := aw_i5 76 rfl rfl
theorem k_1099 : Cond.methodLink "RescanDeskModel" 250 ⟨"RescanDeskModel", "choose", "()V"⟩ ∈ aw_tbl := aw_i5 77 rfl rfl
theorem k_1101 : Cond.instanceMethod ⟨"RescanDeskModel", "choose", "()V"⟩ ∈ aw_tbl := aw_i5 79 rfl rfl
theorem k_1102 : Cond.code ⟨"RescanDeskModel", "choose", "()V"⟩ prog_14_method_39_code 2 none ∈ aw_tbl := aw_i5 80 rfl rfl
theorem k_1103 : Cond.methodLink "RescanDeskModel" 272 ⟨"RescanDeskModel", "areEqual", "(II)Z"⟩ ∈ aw_tbl := aw_i5 81 rfl rfl
theorem k_1105 : Cond.instanceMethod ⟨"RescanDeskModel", "areEqual", "(II)Z"⟩ ∈ aw_tbl := aw_i5 83 rfl rfl
theorem k_1106 : Cond.code ⟨"RescanDeskModel", "areEqual", "(II)Z"⟩ prog_14_method_26_code 5 (some .boolean) ∈ aw_tbl := aw_i5 84 rfl rfl
theorem k_1107 : Cond.methodLink "RescanDeskModel" 253 ⟨"RescanDeskModel", "value", "(I)J"⟩ ∈ aw_tbl := aw_i5 85 rfl rfl
theorem k_1109 : Cond.instanceMethod ⟨"RescanDeskModel", "value", "(I)J"⟩ ∈ aw_tbl := aw_i5 87 rfl rfl
theorem k_1110 : Cond.code ⟨"RescanDeskModel", "value", "(I)J"⟩ prog_14_method_28_code 9 (some .long) ∈ aw_tbl := aw_i5 88 rfl rfl
theorem k_1111 : Cond.methodLink "RescanDeskModel" 257 ⟨"RescanDeskModel", "reckon", "()V"⟩ ∈ aw_tbl := aw_i5 89 rfl rfl
theorem k_1113 : Cond.instanceMethod ⟨"RescanDeskModel", "reckon", "()V"⟩ ∈ aw_tbl := aw_i5 91 rfl rfl
theorem k_1114 : Cond.code ⟨"RescanDeskModel", "reckon", "()V"⟩ prog_14_method_46_code 8 none ∈ aw_tbl := aw_i5 92 rfl rfl
theorem k_1115 : Cond.methodLink "RescanDeskModel" 297 ⟨"RescanDeskModel", "whole", "()V"⟩ ∈ aw_tbl := aw_i5 93 rfl rfl
theorem k_1117 : Cond.instanceMethod ⟨"RescanDeskModel", "whole", "()V"⟩ ∈ aw_tbl := aw_i5 95 rfl rfl
theorem k_1118 : Cond.code ⟨"RescanDeskModel", "whole", "()V"⟩ prog_14_method_45_code 1 none ∈ aw_tbl := aw_i5 96 rfl rfl
theorem k_1119 : Cond.methodLink "RescanDeskModel" 300 ⟨"RescanDeskModel", "settle", "(I)V"⟩ ∈ aw_tbl := aw_i5 97 rfl rfl
theorem k_1121 : Cond.instanceMethod ⟨"RescanDeskModel", "settle", "(I)V"⟩ ∈ aw_tbl := aw_i5 99 rfl rfl
theorem k_1122 : Cond.code ⟨"RescanDeskModel", "settle", "(I)V"⟩ prog_14_method_44_code 2 none ∈ aw_tbl := aw_i5 100 rfl rfl
theorem k_1123 : Cond.methodLink "RescanDeskModel" 285 ⟨"RescanDeskModel", "strength", "(I)I"⟩ ∈ aw_tbl := aw_i5 101 rfl rfl
theorem k_1124 : Cond.static ⟨"RescanDeskModel", "strength", "(I)I"⟩ ∈ aw_tbl := aw_i5 102 rfl rfl
theorem k_1125 : Cond.code ⟨"RescanDeskModel", "strength", "(I)I"⟩ prog_14_method_42_code 1 (some .int) ∈ aw_tbl := aw_i5 103 rfl rfl
theorem k_1126 : Cond.methodLink "RescanDeskModel" 291 ⟨"RescanDeskModel", "made", "(IJJ)J"⟩ ∈ aw_tbl := aw_i5 104 rfl rfl
theorem k_1128 : Cond.instanceMethod ⟨"RescanDeskModel", "made", "(IJJ)J"⟩ ∈ aw_tbl := aw_i5 106 rfl rfl
theorem k_1129 : Cond.code ⟨"RescanDeskModel", "made", "(IJJ)J"⟩ prog_14_method_43_code 6 (some .long) ∈ aw_tbl := aw_i5 107 rfl rfl
theorem k_1130 : Cond.methodLink "RescanDeskModel" 260 ⟨"RescanDeskModel", "cut", "()V"⟩ ∈ aw_tbl := aw_i5 108 rfl rfl
theorem k_1132 : Cond.instanceMethod ⟨"RescanDeskModel", "cut", "()V"⟩ ∈ aw_tbl := aw_i5 110 rfl rfl
theorem k_1133 : Cond.code ⟨"RescanDeskModel", "cut", "()V"⟩ prog_14_method_40_code 6 none ∈ aw_tbl := aw_i5 111 rfl rfl
theorem k_1134 : Cond.constantLong "RescanDeskModel" 276 (400 : Int64) ∈ aw_tbl := aw_i5 112 rfl rfl
theorem k_1135 : Cond.methodLink "RescanDeskModel" 263 ⟨"RescanDeskModel", "index", "()I"⟩ ∈ aw_tbl := aw_i5 113 rfl rfl
theorem k_1137 : Cond.instanceMethod ⟨"RescanDeskModel", "index", "()I"⟩ ∈ aw_tbl := aw_i5 115 rfl rfl
theorem k_1138 : Cond.code ⟨"RescanDeskModel", "index", "()I"⟩ prog_14_method_41_code 4 (some .int) ∈ aw_tbl := aw_i5 116 rfl rfl
theorem k_1139 : Cond.constantLong "RescanDeskModel" 267 (4 : Int64) ∈ aw_tbl := aw_i5 117 rfl rfl
theorem k_1140 : Cond.methodLink "RescanDeskModel" 166 ⟨"RescanDeskModel", "pour", "(II)V"⟩ ∈ aw_tbl := aw_i5 118 rfl rfl
theorem k_1142 : Cond.instanceMethod ⟨"RescanDeskModel", "pour", "(II)V"⟩ ∈ aw_tbl := aw_i5 120 rfl rfl
theorem k_1143 : Cond.code ⟨"RescanDeskModel", "pour", "(II)V"⟩ prog_14_method_11_code 4 none ∈ aw_tbl := aw_i5 121 rfl rfl
theorem k_1144 : Cond.methodLink "RescanDeskModel" 184 ⟨"RescanDeskModel", "gather", "(C)V"⟩ ∈ aw_tbl := aw_i5 122 rfl rfl
theorem k_1146 : Cond.instanceMethod ⟨"RescanDeskModel", "gather", "(C)V"⟩ ∈ aw_tbl := aw_i5 124 rfl rfl
theorem k_1147 : Cond.code ⟨"RescanDeskModel", "gather", "(C)V"⟩ prog_14_method_22_code 4 none ∈ aw_tbl := aw_i5 125 rfl rfl
theorem k_1148 : Cond.methodLink "RescanDeskModel" 204 ⟨"RescanDeskModel", "close", "()V"⟩ ∈ aw_tbl := aw_i5 126 rfl rfl
theorem k_1150 : Cond.instanceMethod ⟨"RescanDeskModel", "close", "()V"⟩ ∈ aw_tbl := aw_i5 128 rfl rfl
theorem k_1151 : Cond.code ⟨"RescanDeskModel", "close", "()V"⟩ prog_14_method_23_code 2 none ∈ aw_tbl := aw_i5 129 rfl rfl
theorem k_1152 : Cond.methodLink "RescanDeskLaw" 51 ⟨"RescanDeskModel", "count", "(I)I"⟩ ∈ aw_tbl := aw_i5 130 rfl rfl
theorem k_1153 : Cond.instanceMethod ⟨"RescanDeskModel", "count", "(I)I"⟩ ∈ aw_tbl := aw_i5 131 rfl rfl
theorem k_1154 : Cond.selects "RescanDeskModel" ⟨"RescanDeskModel", "count", "(I)I"⟩ ⟨"RescanDeskModel", "count", "(I)I"⟩ ∈ aw_tbl := aw_i5 132 rfl rfl
theorem k_1155 : Cond.code ⟨"RescanDeskModel", "count", "(I)I"⟩ prog_14_method_48_code 2 (some .int) ∈ aw_tbl := aw_i5 133 rfl rfl
theorem k_1156 : Cond.methodLink "RescanDeskModel" 303 ⟨"RescanDeskModel", "macros", "()I"⟩ ∈ aw_tbl := aw_i5 134 rfl rfl
theorem k_1158 : Cond.instanceMethod ⟨"RescanDeskModel", "macros", "()I"⟩ ∈ aw_tbl := aw_i5 136 rfl rfl
theorem k_1159 : Cond.code ⟨"RescanDeskModel", "macros", "()I"⟩ prog_14_method_47_code 3 (some .int) ∈ aw_tbl := aw_i5 137 rfl rfl
theorem k_1160 : Cond.sameMethod "java/lang/Throwable" "java/lang/Throwable" "fillInStackTrace" "(I)Ljava/lang/Throwable;" ∈ aw_tbl := aw_i5 138 rfl rfl
theorem k_1161 : Cond.fieldLinkNest "RescanDesk$Definition" 30 "RescanDesk$BuiltIn" "word" "Ljava/lang/String;" "RescanDesk" ∈ aw_nest := aw_n5 139 rfl rfl
theorem k_1162 : Cond.fieldLink "java/lang/String" 9 "java/lang/String" "value" "[B" ∈ aw_tbl := aw_i5 140 rfl rfl
theorem k_1163 : Cond.fieldLink "java/lang/String" 15 "java/lang/String" "coder" "B" ∈ aw_tbl := aw_i5 141 rfl rfl
theorem k_1164 : Cond.fieldLink "java/lang/Enum" 7 "java/lang/Enum" "ordinal" "I" ∈ aw_tbl := aw_i5 142 rfl rfl
theorem k_1182 : Cond.arrayClass .byte ∈ aw_tbl := aw_i5 160 rfl rfl
end
section
section AWCO
variable {G : aw_G} {E : aw_E} {P : Option Value → (Nat → va_E) → Nat → Prop} {nL d mc ms nx n0 cells slots pc : Nat} {al : Bool} {w : Nat → va_E} {lv : List (Nat × Value)} {rest : List Value} {own nm : String} {cc : ByteArray} {ret : Option FieldType}
theorem aw_X.c {G : aw_G} {own nm : String} {cc : ByteArray} {nL n0 d mc ms : Nat} {ret : Option FieldType} {al : Bool} {E : aw_E} (X : aw_X G own cc nL ret nm al n0 d mc ms E) : aw_C2 G E.2.2.1 E.2.2.1.heap := X.2.2.2.2.2.2.2.2.2.1.2.2
theorem aw_gets (X : aw_X G own cc nL ret nm al n0 d mc ms E) {C n ds : String} {v : Value} {index : Nat} (hZ : va_Z C n ds v (aw_own G) E.2.2.1 E.2.2.1.heap) (hlink : Cond.fieldLink own index C n ds ∈ aw_tbl) (hdg : decode cc pc = .ok (.getstatic index, 3)) (kk : AW G E nL nx cells slots w (pc + 3) lv (v :: rest)) : AW G E nL nx cells slots w pc lv rest := by
  intro H locs ls hP hS hl
  exact va_gets X.1 X.2.1 hZ hS X.2.2.2.1 (X.2.2.2.2.1 _ hlink) (fun _ h => h) hdg (kk H locs ls hP hS hl)
theorem aw_getsN (X : aw_X G own cc nL ret nm al n0 d mc ms E) {C n ds host : String} {v : Value} {index : Nat} (hZ : va_Z C n ds v (aw_own G) E.2.2.1 E.2.2.1.heap) (hlink : Cond.fieldLinkNest own index C n ds host ∈ aw_nest) (hdg : decode cc pc = .ok (.getstatic index, 3)) (kk : AW G E nL nx cells slots w (pc + 3) lv (v :: rest)) : AW G E nL nx cells slots w pc lv rest := by
  intro H locs ls hP hS hl
  exact va_getsN X.1 X.2.1 hZ hS X.2.2.2.1 (va_Nw.use rfl (X.2.2.2.2.2.2.2.2.2.1.1 _ hlink)) (fun _ h => h) hdg (kk H locs ls hP hS hl)
theorem aw_ti (X : aw_X G own cc nL ret nm al n0 d mc ms E) {t N i : Nat} {f : Nat → Value} {v : Value} (hT : va_T .int t N f (aw_own G) E.2.2.1 E.2.2.1.heap) (hi : i < N) (hN : N < 2 ^ 31) (hv : f i = v) (hdg : decode cc pc = .ok (.iaload, 1)) (kk : AW G E nL nx cells slots w (pc + 1) lv (v :: rest)) : AW G E nL nx cells slots w pc lv (.int (nI i) :: .ref t :: rest) := by
  intro H locs ls hP hS hl
  exact va_ti X.1 X.2.1 hT hS (vp_in_nI hi hN) (by rw [nI_clamp (by omega)]; exact hv) hdg (kk H locs ls hP hS hl)
theorem aw_tb (X : aw_X G own cc nL ret nm al n0 d mc ms E) {t N i : Nat} {f : Nat → Value} {v : Value} (hT : va_T .byte t N f (aw_own G) E.2.2.1 E.2.2.1.heap) (hi : i < N) (hN : N < 2 ^ 31) (hv : f i = v) (hdg : decode cc pc = .ok (.baload, 1)) (kk : AW G E nL nx cells slots w (pc + 1) lv (v :: rest)) : AW G E nL nx cells slots w pc lv (.int (nI i) :: .ref t :: rest) := by
  intro H locs ls hP hS hl
  exact va_tb X.1 X.2.1 hT hS (vp_in_nI hi hN) (by rw [nI_clamp (by omega)]; exact hv) hdg (kk H locs ls hP hS hl)
theorem aw_tq (X : aw_X G own cc nL ret nm al n0 d mc ms E) {C : String} {t N i : Nat} {f : Nat → Value} {v : Value} (hT : va_T (.object C) t N f (aw_own G) E.2.2.1 E.2.2.1.heap) (hi : i < N) (hN : N < 2 ^ 31) (hv : f i = v) (hdg : decode cc pc = .ok (.aaload, 1)) (kk : AW G E nL nx cells slots w (pc + 1) lv (v :: rest)) : AW G E nL nx cells slots w pc lv (.int (nI i) :: .ref t :: rest) := by
  intro H locs ls hP hS hl
  exact vb_tq X.1 X.2.1 hT hS (vp_in_nI hi hN) (by rw [nI_clamp (by omega)]; exact hv) hdg (kk H locs ls hP hS hl)
theorem aw_tlen (X : aw_X G own cc nL ret nm al n0 d mc ms E) {ty : FieldType} {t N : Nat} {f : Nat → Value} (hT : va_T ty t N f (aw_own G) E.2.2.1 E.2.2.1.heap) (hdg : decode cc pc = .ok (.arraylength, 1)) (kk : AW G E nL nx cells slots w (pc + 1) lv (.int (nI N) :: rest)) : AW G E nL nx cells slots w pc lv (.ref t :: rest) := by
  intro H locs ls hP hS hl
  exact va_tlen X.1 X.2.1 hT hS rfl hdg (kk H locs ls hP hS hl)
theorem aw_getc (X : aw_X G own cc nL ret nm al n0 d mc ms E) {o n ds : String} {index q : Nat} {v : Value} (hE : va_OF o n ds v q (aw_own G) E.2.2.1 E.2.2.1.heap) (hlink : Cond.fieldLink own index o n ds ∈ aw_tbl) (hdg : decode cc pc = .ok (.getfield index, 3)) (kk : AW G E nL nx cells slots w (pc + 3) lv (v :: rest)) : AW G E nL nx cells slots w pc lv (.ref q :: rest) := by
  intro H locs ls hP hS hl
  exact vk_getf X.1 X.2.1 hE hS X.2.2.2.1 (X.2.2.2.2.1 _ hlink) (fun _ h => h) hdg (kk H locs ls hP hS hl)
theorem aw_getcN (X : aw_X G own cc nL ret nm al n0 d mc ms E) {o n ds host : String} {index q : Nat} {v : Value} (hE : va_OF o n ds v q (aw_own G) E.2.2.1 E.2.2.1.heap) (hlink : Cond.fieldLinkNest own index o n ds host ∈ aw_nest) (hdg : decode cc pc = .ok (.getfield index, 3)) (kk : AW G E nL nx cells slots w (pc + 3) lv (v :: rest)) : AW G E nL nx cells slots w pc lv (.ref q :: rest) := by
  intro H locs ls hP hS hl
  obtain ⟨cf, k, fi, f, cell, h1, h2, h3, h4, h5, h6⟩ := hE.kept hS.2.1
  exact va_Wgetf X.1 X.2.1 X.2.2.2.1 (va_Nw.use rfl (X.2.2.2.2.2.2.2.2.2.1.1 _ hlink)) h1 h2 h3 h4 (v := v) h5 rfl rfl hdg (kk H locs ls hP hS hl)

theorem aw_ishr (X : aw_X G own cc nL ret nm al n0 d mc ms E) {x y : Int32} (hdg : decode cc pc = .ok (.ishr, 1)) (k : AW G E nL nx cells slots w (pc + 1) lv (.int (x >>> (y &&& 31)) :: rest)) : AW G E nL nx cells slots w pc lv (.int y :: .int x :: rest) := fun H locs ls hP hS hl => lv_ishr X.1 X.2.1 hdg (k H locs ls hP hS hl)
/-- a virtual call whose receiver is a constant -/
theorem aw_callC (X : aw_X G own cc nL ret nm al n0 d mc ms E) {y : MethodName} {bytes : ByteArray} {maxL mc' ms' index d' : Nat} {rt : Option FieldType} {As : List Value} {post : Option Value → (Nat → va_E) → Nat → Prop} {al' : Bool} (bb : Nat) (hM : AC G y bytes maxL rt d' al' (.ref bb :: As) nx w mc' ms' post) (hq : aw_q1 y bytes maxL rt As.length) (hlink : Cond.methodLink own index y ∈ aw_tbl) (hin : Cond.instanceMethod y ∈ aw_tbl) (hsel : Cond.selects y.cls y y ∈ aw_tbl) (hO : va_O y.cls bb (aw_own G) E.2.2.1 E.2.2.1.heap) (hdg : decode cc pc = .ok (.invokevirtual index, 3)) (hd : d' + 1 ≤ d) (hst : (rest.map fun v => v.category).sum ≤ 8) (hf : cells + mc' ≤ mc ∧ slots + ms' ≤ ms) (has : al' = true → al = true ∧ nx = n0 + cells) (kk : ∀ (r : Option Value) (w' : Nat → va_E) (nx' : Nat), post r w' nx' → AW G E nL nx' (cells + mc') (slots + ms') w' (pc + 3) lv (r.toList ++ rest)) : AW G E nL nx cells slots w pc lv (As.reverse ++ .ref bb :: rest) := by
  obtain ⟨post0, hM, hpw⟩ := hM
  intro H locs ls hP hS hl T hT St
  have hpre := aw_pre X has hT St hP hS (.ref bb :: As)
  have hG := aw_gd hq.1
  have hyd := hq.2.2.1
  have hini := hq.2.1
  obtain ⟨hx, hb, hmx, hown, hts, -, -, -, hK, hKs, hbs, hsz, hRf, hRl, hRc, hRs⟩ := X
  refine (aw_core (post := post0) (a := (.ref bb :: As).toArray) (st0 := As.reverse ++ .ref bb :: rest) (ls := ls) ?_ hS hl (fun r w' nx' hp => kk r w' nx' (hpw _ _ _ hp))) T hT St
  exact va_runV (C := y.cls) (As := As) (rest := rest) ⟨hx, hb, hmx, hown, hts⟩ hM ⟨(callB_of As.length hts hG rfl rfl rfl (hts _ hini) (hts _ hlink) hyd ⟨by show d' + 1 ≤ _; omega, by have hml := hq.2.2.2; show 8 + (maxL + 11) + 40 * d' ≤ _; omega⟩), hts _ hin, hts _ hsel⟩ ⟨aw_blind, va_Orecv hO hS, hpre⟩ rfl rfl hl.1 rfl (lv_room hst) hdg ⟨Nat.le_trans hf.1 hRc, Nat.le_trans hf.2 hRs⟩
/-- a virtual call of a method that the receiver's class inherits; the receiver is a constant -/
theorem aw_callU (X : aw_X G own cc nL ret nm al n0 d mc ms E) {y : MethodName} {bytes : ByteArray} {maxL mc' ms' index d' : Nat} {rt : Option FieldType} {As : List Value} {post : Option Value → (Nat → va_E) → Nat → Prop} {al' : Bool} {x : MethodName} {owner : String} (C : String) (bb : Nat) (hM : AC G y bytes maxL rt d' al' (.ref bb :: As) nx w mc' ms' post) (hq : aw_q1 y bytes maxL rt As.length) (hyx : y = ⟨owner, x.name, x.desc⟩) (hx2 : owner ≠ "java/lang/invoke/MethodHandle" ∧ owner ≠ "java/lang/invoke/VarHandle" ∧ (parseMethodDescriptor x.desc).map (fun d => d.parameters.length) = some As.length) (hlink : Cond.methodLink own index x ∈ aw_tbl) (hsm : Cond.sameMethod x.cls owner x.name x.desc ∈ aw_tbl) (hin : Cond.instanceMethod y ∈ aw_tbl) (hsel : Cond.selects C x y ∈ aw_tbl) (hO : va_O C bb (aw_own G) E.2.2.1 E.2.2.1.heap) (hdg : decode cc pc = .ok (.invokevirtual index, 3)) (hd : d' + 1 ≤ d) (hst : (rest.map fun v => v.category).sum ≤ 8) (hf : cells + mc' ≤ mc ∧ slots + ms' ≤ ms) (has : al' = true → al = true ∧ nx = n0 + cells) (kk : ∀ (r : Option Value) (w' : Nat → va_E) (nx' : Nat), post r w' nx' → AW G E nL nx' (cells + mc') (slots + ms') w' (pc + 3) lv (r.toList ++ rest)) : AW G E nL nx cells slots w pc lv (As.reverse ++ .ref bb :: rest) := by
  obtain ⟨post0, hM, hpw⟩ := hM
  intro H locs ls hP hS hl T hT St
  have hpre := aw_pre X has hT St hP hS (.ref bb :: As)
  have hG := aw_gd hq.1
  have hini := hq.2.1
  obtain ⟨hx, hb, hmx, hown, hts, -, -, -, hK, hKs, hbs, hsz, hRf, hRl, hRc, hRs⟩ := X
  refine (aw_core (post := post0) (a := (.ref bb :: As).toArray) (st0 := As.reverse ++ .ref bb :: rest) (ls := ls) ?_ hS hl (fun r w' nx' hp => kk r w' nx' (hpw _ _ _ hp))) T hT St
  have hGU : GoodIn aw_tbl (va_wsU own index C owner x y (Cond.code y bytes maxL rt :: aw_tbl)) := fun z hz => by
    unfold va_wsU at hz
    rcases List.mem_append.mp hz with q | q
    · have q2 : z ∈ aw_tbl := by
        simp only [List.mem_cons, List.not_mem_nil, or_false] at q
        rcases q with rfl | rfl | rfl | rfl | rfl <;> assumption
      exact ⟨q2, good_of_word (List.mem_filter.mp q2).2⟩
    · exact hG z q
  exact va_runU (C := C) (owner := owner) (x := x) (As := As) (rest := rest) ⟨hx, hb, hmx, hown, hts⟩ hM (va_cwU As.length hts hGU rfl rfl rfl hyx hx2 ⟨by show d' + 1 ≤ _; omega, by have hml := hq.2.2.2; show 8 + (maxL + 11) + 40 * d' ≤ _; omega⟩) ⟨aw_blind, va_Orecv hO hS, hpre⟩ rfl rfl hl.1 rfl (lv_room hst) hdg ⟨Nat.le_trans hf.1 hRc, Nat.le_trans hf.2 hRs⟩
end AWCO
end
section
/-! RescanDesk$Text: a row of characters. oTx: the object, its characters' array at offset c, its length n; aCh: the array -/
def y_Tx_init : MethodName := ⟨"RescanDesk$Text", "<init>", "(I)V"⟩
abbrev b_Tx_init : ByteArray := prog_12_method_1_code
theorem d_Tx_init_0 : decode b_Tx_init 0 = .ok (.aload_n 0, 1) := by decide +kernel
theorem d_Tx_init_1 : decode b_Tx_init 1 = .ok (.invokespecial 3, 3) := by decide +kernel
theorem d_Tx_init_4 : decode b_Tx_init 4 = .ok (.aload_n 0, 1) := by decide +kernel
theorem d_Tx_init_5 : decode b_Tx_init 5 = .ok (.iload_n 1, 1) := by decide +kernel
theorem d_Tx_init_6 : decode b_Tx_init 6 = .ok (.newarray .char, 2) := by decide +kernel
theorem d_Tx_init_8 : decode b_Tx_init 8 = .ok (.putfield 9, 3) := by decide +kernel
theorem d_Tx_init_11 : decode b_Tx_init 11 = .ok (.aload_n 0, 1) := by decide +kernel
theorem d_Tx_init_12 : decode b_Tx_init 12 = .ok (.iconst 0, 1) := by decide +kernel
theorem d_Tx_init_13 : decode b_Tx_init 13 = .ok (.putfield 15, 3) := by decide +kernel
theorem d_Tx_init_16 : decode b_Tx_init 16 = .ok (.return_, 1) := by decide +kernel
theorem q_Tx_init : aw_q1 y_Tx_init b_Tx_init 2 none 1 := ⟨k_100, k_64, ⟨by decide, by decide, by decide +kernel⟩, by decide⟩
def y_Tx_empty : MethodName := ⟨"RescanDesk$Text", "empty", "()V"⟩
abbrev b_Tx_empty : ByteArray := prog_12_method_2_code
theorem d_Tx_empty_0 : decode b_Tx_empty 0 = .ok (.aload_n 0, 1) := by decide +kernel
theorem d_Tx_empty_1 : decode b_Tx_empty 1 = .ok (.iconst 0, 1) := by decide +kernel
theorem d_Tx_empty_2 : decode b_Tx_empty 2 = .ok (.putfield 15, 3) := by decide +kernel
theorem d_Tx_empty_5 : decode b_Tx_empty 5 = .ok (.return_, 1) := by decide +kernel
theorem q_Tx_empty : aw_q1 y_Tx_empty b_Tx_empty 1 none 0 := ⟨k_198, k_64, ⟨by decide, by decide, by decide +kernel⟩, by decide⟩
def y_Tx_add : MethodName := ⟨"RescanDesk$Text", "add", "(C)Z"⟩
abbrev b_Tx_add : ByteArray := prog_12_method_3_code
theorem d_Tx_add_0 : decode b_Tx_add 0 = .ok (.aload_n 0, 1) := by decide +kernel
theorem d_Tx_add_1 : decode b_Tx_add 1 = .ok (.getfield 15, 3) := by decide +kernel
theorem d_Tx_add_4 : decode b_Tx_add 4 = .ok (.aload_n 0, 1) := by decide +kernel
theorem d_Tx_add_5 : decode b_Tx_add 5 = .ok (.getfield 9, 3) := by decide +kernel
theorem d_Tx_add_8 : decode b_Tx_add 8 = .ok (.arraylength, 1) := by decide +kernel
theorem d_Tx_add_9 : decode b_Tx_add 9 = .ok (.if_icmp .lt 5, 3) := by decide +kernel
theorem d_Tx_add_12 : decode b_Tx_add 12 = .ok (.iconst 0, 1) := by decide +kernel
theorem d_Tx_add_13 : decode b_Tx_add 13 = .ok (.ireturn, 1) := by decide +kernel
theorem d_Tx_add_14 : decode b_Tx_add 14 = .ok (.aload_n 0, 1) := by decide +kernel
theorem d_Tx_add_15 : decode b_Tx_add 15 = .ok (.getfield 9, 3) := by decide +kernel
theorem d_Tx_add_18 : decode b_Tx_add 18 = .ok (.aload_n 0, 1) := by decide +kernel
theorem d_Tx_add_19 : decode b_Tx_add 19 = .ok (.getfield 15, 3) := by decide +kernel
theorem d_Tx_add_22 : decode b_Tx_add 22 = .ok (.iload_n 1, 1) := by decide +kernel
theorem d_Tx_add_23 : decode b_Tx_add 23 = .ok (.castore, 1) := by decide +kernel
theorem d_Tx_add_24 : decode b_Tx_add 24 = .ok (.aload_n 0, 1) := by decide +kernel
theorem d_Tx_add_25 : decode b_Tx_add 25 = .ok (.dup, 1) := by decide +kernel
theorem d_Tx_add_26 : decode b_Tx_add 26 = .ok (.getfield 15, 3) := by decide +kernel
theorem d_Tx_add_29 : decode b_Tx_add 29 = .ok (.iconst 1, 1) := by decide +kernel
theorem d_Tx_add_30 : decode b_Tx_add 30 = .ok (.iadd, 1) := by decide +kernel
theorem d_Tx_add_31 : decode b_Tx_add 31 = .ok (.putfield 15, 3) := by decide +kernel
theorem d_Tx_add_34 : decode b_Tx_add 34 = .ok (.iconst 1, 1) := by decide +kernel
theorem d_Tx_add_35 : decode b_Tx_add 35 = .ok (.ireturn, 1) := by decide +kernel
theorem q_Tx_add : aw_q1 y_Tx_add b_Tx_add 2 (some .boolean) 1 := ⟨k_250, k_64, ⟨by decide, by decide, by decide +kernel⟩, by decide⟩
def y_Tx_addPart : MethodName := ⟨"RescanDesk$Text", "addPart", "([CII)Z"⟩
abbrev b_Tx_addPart : ByteArray := prog_12_method_4_code
theorem d_Tx_addPart_0 : decode b_Tx_addPart 0 = .ok (.iload_n 3, 1) := by decide +kernel
theorem d_Tx_addPart_1 : decode b_Tx_addPart 1 = .ok (.iload_n 2, 1) := by decide +kernel
theorem d_Tx_addPart_2 : decode b_Tx_addPart 2 = .ok (.isub, 1) := by decide +kernel
theorem d_Tx_addPart_3 : decode b_Tx_addPart 3 = .ok (.aload_n 0, 1) := by decide +kernel
theorem d_Tx_addPart_4 : decode b_Tx_addPart 4 = .ok (.getfield 9, 3) := by decide +kernel
theorem d_Tx_addPart_7 : decode b_Tx_addPart 7 = .ok (.arraylength, 1) := by decide +kernel
theorem d_Tx_addPart_8 : decode b_Tx_addPart 8 = .ok (.aload_n 0, 1) := by decide +kernel
theorem d_Tx_addPart_9 : decode b_Tx_addPart 9 = .ok (.getfield 15, 3) := by decide +kernel
theorem d_Tx_addPart_12 : decode b_Tx_addPart 12 = .ok (.isub, 1) := by decide +kernel
theorem d_Tx_addPart_13 : decode b_Tx_addPart 13 = .ok (.invokestatic 19, 3) := by decide +kernel
theorem d_Tx_addPart_16 : decode b_Tx_addPart 16 = .ok (.istore 4, 2) := by decide +kernel
theorem d_Tx_addPart_18 : decode b_Tx_addPart 18 = .ok (.iload 4, 2) := by decide +kernel
theorem d_Tx_addPart_20 : decode b_Tx_addPart 20 = .ok (.ifCond .le 29, 3) := by decide +kernel
theorem d_Tx_addPart_23 : decode b_Tx_addPart 23 = .ok (.aload_n 1, 1) := by decide +kernel
theorem d_Tx_addPart_24 : decode b_Tx_addPart 24 = .ok (.iload_n 2, 1) := by decide +kernel
theorem d_Tx_addPart_25 : decode b_Tx_addPart 25 = .ok (.aload_n 0, 1) := by decide +kernel
theorem d_Tx_addPart_26 : decode b_Tx_addPart 26 = .ok (.getfield 9, 3) := by decide +kernel
theorem d_Tx_addPart_29 : decode b_Tx_addPart 29 = .ok (.aload_n 0, 1) := by decide +kernel
theorem d_Tx_addPart_30 : decode b_Tx_addPart 30 = .ok (.getfield 15, 3) := by decide +kernel
theorem d_Tx_addPart_33 : decode b_Tx_addPart 33 = .ok (.iload 4, 2) := by decide +kernel
theorem d_Tx_addPart_35 : decode b_Tx_addPart 35 = .ok (.invokestatic 25, 3) := by decide +kernel
theorem d_Tx_addPart_38 : decode b_Tx_addPart 38 = .ok (.aload_n 0, 1) := by decide +kernel
theorem d_Tx_addPart_39 : decode b_Tx_addPart 39 = .ok (.dup, 1) := by decide +kernel
theorem d_Tx_addPart_40 : decode b_Tx_addPart 40 = .ok (.getfield 15, 3) := by decide +kernel
theorem d_Tx_addPart_43 : decode b_Tx_addPart 43 = .ok (.iload 4, 2) := by decide +kernel
theorem d_Tx_addPart_45 : decode b_Tx_addPart 45 = .ok (.iadd, 1) := by decide +kernel
theorem d_Tx_addPart_46 : decode b_Tx_addPart 46 = .ok (.putfield 15, 3) := by decide +kernel
theorem d_Tx_addPart_49 : decode b_Tx_addPart 49 = .ok (.iload_n 3, 1) := by decide +kernel
theorem d_Tx_addPart_50 : decode b_Tx_addPart 50 = .ok (.iload_n 2, 1) := by decide +kernel
theorem d_Tx_addPart_51 : decode b_Tx_addPart 51 = .ok (.isub, 1) := by decide +kernel
theorem d_Tx_addPart_52 : decode b_Tx_addPart 52 = .ok (.iload 4, 2) := by decide +kernel
theorem d_Tx_addPart_54 : decode b_Tx_addPart 54 = .ok (.if_icmp .gt 7, 3) := by decide +kernel
theorem d_Tx_addPart_57 : decode b_Tx_addPart 57 = .ok (.iconst 1, 1) := by decide +kernel
theorem d_Tx_addPart_58 : decode b_Tx_addPart 58 = .ok (.goto 4, 3) := by decide +kernel
theorem d_Tx_addPart_61 : decode b_Tx_addPart 61 = .ok (.iconst 0, 1) := by decide +kernel
theorem d_Tx_addPart_62 : decode b_Tx_addPart 62 = .ok (.ireturn, 1) := by decide +kernel
theorem q_Tx_addPart : aw_q1 y_Tx_addPart b_Tx_addPart 5 (some .boolean) 3 := ⟨k_549, k_64, ⟨by decide, by decide, by decide +kernel⟩, by decide⟩
def y_Tx_hasRoomFor : MethodName := ⟨"RescanDesk$Text", "hasRoomFor", "(LRescanDesk$Text;)Z"⟩
abbrev b_Tx_hasRoomFor : ByteArray := prog_12_method_5_code
theorem d_Tx_hasRoomFor_0 : decode b_Tx_hasRoomFor 0 = .ok (.aload_n 1, 1) := by decide +kernel
theorem d_Tx_hasRoomFor_1 : decode b_Tx_hasRoomFor 1 = .ok (.getfield 15, 3) := by decide +kernel
theorem d_Tx_hasRoomFor_4 : decode b_Tx_hasRoomFor 4 = .ok (.aload_n 0, 1) := by decide +kernel
theorem d_Tx_hasRoomFor_5 : decode b_Tx_hasRoomFor 5 = .ok (.getfield 9, 3) := by decide +kernel
theorem d_Tx_hasRoomFor_8 : decode b_Tx_hasRoomFor 8 = .ok (.arraylength, 1) := by decide +kernel
theorem d_Tx_hasRoomFor_9 : decode b_Tx_hasRoomFor 9 = .ok (.aload_n 0, 1) := by decide +kernel
theorem d_Tx_hasRoomFor_10 : decode b_Tx_hasRoomFor 10 = .ok (.getfield 15, 3) := by decide +kernel
theorem d_Tx_hasRoomFor_13 : decode b_Tx_hasRoomFor 13 = .ok (.isub, 1) := by decide +kernel
theorem d_Tx_hasRoomFor_14 : decode b_Tx_hasRoomFor 14 = .ok (.if_icmp .gt 7, 3) := by decide +kernel
theorem d_Tx_hasRoomFor_17 : decode b_Tx_hasRoomFor 17 = .ok (.iconst 1, 1) := by decide +kernel
theorem d_Tx_hasRoomFor_18 : decode b_Tx_hasRoomFor 18 = .ok (.goto 4, 3) := by decide +kernel
theorem d_Tx_hasRoomFor_21 : decode b_Tx_hasRoomFor 21 = .ok (.iconst 0, 1) := by decide +kernel
theorem d_Tx_hasRoomFor_22 : decode b_Tx_hasRoomFor 22 = .ok (.ireturn, 1) := by decide +kernel
theorem q_Tx_hasRoomFor : aw_q1 y_Tx_hasRoomFor b_Tx_hasRoomFor 2 (some .boolean) 1 := ⟨k_727, k_64, ⟨by decide, by decide, by decide +kernel⟩, by decide⟩
def y_Tx_set : MethodName := ⟨"RescanDesk$Text", "set", "([CII)V"⟩
abbrev b_Tx_set : ByteArray := prog_12_method_6_code
theorem d_Tx_set_0 : decode b_Tx_set 0 = .ok (.aload_n 0, 1) := by decide +kernel
theorem d_Tx_set_1 : decode b_Tx_set 1 = .ok (.iconst 0, 1) := by decide +kernel
theorem d_Tx_set_2 : decode b_Tx_set 2 = .ok (.putfield 15, 3) := by decide +kernel
theorem d_Tx_set_5 : decode b_Tx_set 5 = .ok (.aload_n 0, 1) := by decide +kernel
theorem d_Tx_set_6 : decode b_Tx_set 6 = .ok (.aload_n 1, 1) := by decide +kernel
theorem d_Tx_set_7 : decode b_Tx_set 7 = .ok (.iload_n 2, 1) := by decide +kernel
theorem d_Tx_set_8 : decode b_Tx_set 8 = .ok (.iload_n 3, 1) := by decide +kernel
theorem d_Tx_set_9 : decode b_Tx_set 9 = .ok (.invokevirtual 31, 3) := by decide +kernel
theorem d_Tx_set_12 : decode b_Tx_set 12 = .ok (.pop, 1) := by decide +kernel
theorem d_Tx_set_13 : decode b_Tx_set 13 = .ok (.return_, 1) := by decide +kernel
theorem q_Tx_set : aw_q1 y_Tx_set b_Tx_set 4 none 3 := ⟨k_579, k_64, ⟨by decide, by decide, by decide +kernel⟩, by decide⟩
def y_Tx_isSame : MethodName := ⟨"RescanDesk$Text", "isSame", "([CII)Z"⟩
abbrev b_Tx_isSame : ByteArray := prog_12_method_8_code
theorem d_Tx_isSame_0 : decode b_Tx_isSame 0 = .ok (.iload_n 3, 1) := by decide +kernel
theorem d_Tx_isSame_1 : decode b_Tx_isSame 1 = .ok (.iload_n 2, 1) := by decide +kernel
theorem d_Tx_isSame_2 : decode b_Tx_isSame 2 = .ok (.isub, 1) := by decide +kernel
theorem d_Tx_isSame_3 : decode b_Tx_isSame 3 = .ok (.aload_n 0, 1) := by decide +kernel
theorem d_Tx_isSame_4 : decode b_Tx_isSame 4 = .ok (.getfield 15, 3) := by decide +kernel
theorem d_Tx_isSame_7 : decode b_Tx_isSame 7 = .ok (.if_icmp .eq 5, 3) := by decide +kernel
theorem d_Tx_isSame_10 : decode b_Tx_isSame 10 = .ok (.iconst 0, 1) := by decide +kernel
theorem d_Tx_isSame_11 : decode b_Tx_isSame 11 = .ok (.ireturn, 1) := by decide +kernel
theorem d_Tx_isSame_12 : decode b_Tx_isSame 12 = .ok (.iconst 0, 1) := by decide +kernel
theorem d_Tx_isSame_13 : decode b_Tx_isSame 13 = .ok (.istore 4, 2) := by decide +kernel
theorem d_Tx_isSame_15 : decode b_Tx_isSame 15 = .ok (.iload 4, 2) := by decide +kernel
theorem d_Tx_isSame_17 : decode b_Tx_isSame 17 = .ok (.aload_n 0, 1) := by decide +kernel
theorem d_Tx_isSame_18 : decode b_Tx_isSame 18 = .ok (.getfield 15, 3) := by decide +kernel
theorem d_Tx_isSame_21 : decode b_Tx_isSame 21 = .ok (.if_icmp .ge 27, 3) := by decide +kernel
theorem d_Tx_isSame_24 : decode b_Tx_isSame 24 = .ok (.aload_n 0, 1) := by decide +kernel
theorem d_Tx_isSame_25 : decode b_Tx_isSame 25 = .ok (.getfield 9, 3) := by decide +kernel
theorem d_Tx_isSame_28 : decode b_Tx_isSame 28 = .ok (.iload 4, 2) := by decide +kernel
theorem d_Tx_isSame_30 : decode b_Tx_isSame 30 = .ok (.caload, 1) := by decide +kernel
theorem d_Tx_isSame_31 : decode b_Tx_isSame 31 = .ok (.aload_n 1, 1) := by decide +kernel
theorem d_Tx_isSame_32 : decode b_Tx_isSame 32 = .ok (.iload_n 2, 1) := by decide +kernel
theorem d_Tx_isSame_33 : decode b_Tx_isSame 33 = .ok (.iload 4, 2) := by decide +kernel
theorem d_Tx_isSame_35 : decode b_Tx_isSame 35 = .ok (.iadd, 1) := by decide +kernel
theorem d_Tx_isSame_36 : decode b_Tx_isSame 36 = .ok (.caload, 1) := by decide +kernel
theorem d_Tx_isSame_37 : decode b_Tx_isSame 37 = .ok (.if_icmp .eq 5, 3) := by decide +kernel
theorem d_Tx_isSame_40 : decode b_Tx_isSame 40 = .ok (.iconst 0, 1) := by decide +kernel
theorem d_Tx_isSame_41 : decode b_Tx_isSame 41 = .ok (.ireturn, 1) := by decide +kernel
theorem d_Tx_isSame_42 : decode b_Tx_isSame 42 = .ok (.iinc 4 1, 3) := by decide +kernel
theorem d_Tx_isSame_45 : decode b_Tx_isSame 45 = .ok (.goto (-30), 3) := by decide +kernel
theorem d_Tx_isSame_48 : decode b_Tx_isSame 48 = .ok (.iconst 1, 1) := by decide +kernel
theorem d_Tx_isSame_49 : decode b_Tx_isSame 49 = .ok (.ireturn, 1) := by decide +kernel
theorem q_Tx_isSame : aw_q1 y_Tx_isSame b_Tx_isSame 5 (some .boolean) 3 := ⟨k_422, k_64, ⟨by decide, by decide, by decide +kernel⟩, by decide⟩
def oTx (G : aw_G) (c n : Nat) : va_E := aObj 1 [rf G c, .int (nI n)]
def aCh (G : aw_G) (n : Nat) (g : Nat → Nat) : va_E := aArr (G.2.2.2.1 0) n g
/-- the text of length n at place s -/
def sl (g : Nat → Nat) (s n : Nat) : List Nat := (List.range n).map (fun i => g (s + i))
theorem sl_len (g : Nat → Nat) (s n : Nat) : (sl g s n).length = n := by simp [sl]
theorem sl_get {g : Nat → Nat} {s n i : Nat} (h : i < n) : (sl g s n)[i]? = some (g (s + i)) := by simp [sl, h]
theorem sl_eq {g h : Nat → Nat} {s t n : Nat} : sl g s n = sl h t n ↔ ∀ i, i < n → g (s + i) = h (t + i) := by
  constructor
  · intro e i hi
    have := congrArg (fun l => l[i]?) e
    simpa [sl_get hi] using this
  · intro e
    apply List.ext_getElem?
    intro i
    by_cases hi : i < n
    · rw [sl_get hi, sl_get hi, e i hi]
    · rw [List.getElem?_eq_none_iff.mpr (by rw [sl_len]; omega), List.getElem?_eq_none_iff.mpr (by rw [sl_len]; omega)]
def bN (p : Bool) : Nat := cond p 1 0
section
variable {G : aw_G} {nx d : Nat} {w : Nat → va_E}
/-- empty() -/
theorem c_Tx_empty {a c n : Nat} (ha : a < nx) (h1 : w a = oTx G c n) : AC G y_Tx_empty b_Tx_empty 1 none d false [rf G a] nx w 0 0 (fun r w' nx' => r = none ∧ w' = aw_up w a (oTx G c 0) ∧ nx' = nx) := by
  refine AC.ofW (by decide) (Nat.le_of_ble_eq_true rfl) ?_
  intro E P hP Y X
  have X : aw_X G "RescanDesk$Text" b_Tx_empty 1 none "empty" _ _ _ _ _ E := X
  refine AW.eql (lv' := [(0, _)]) (by rfl) ?_
  refine aw_aload_nR (pc := 0) X d_Tx_empty_0 (by rfl) ?_
  refine aw_iconstN (pc := 1) X 0 d_Tx_empty_1 (by decide) ?_
  refine aw_putO (pc := 2) X _ 1 (by omega) (by (repeat (first | rw [aw_up_eq] | rw [aw_up_ne _ _ (by first | assumption | omega)])) <;> first | assumption | rfl) (by rfl) in_Tx (by decide) ty_Tx ok_Tx nm_Tx k_111 (by rfl) (by rfl) (by rfl) (by simp) (fs' := [_, _]) (by rfl) d_Tx_empty_2 ?_
  refine aw_vret Y X rfl d_Tx_empty_5 (by omega) (by omega) (hP _ _ _ ?_)
  -- ret 5 lv=0:r st=
  exact ⟨rfl, rfl, rfl⟩
/-- Text(room) -/
theorem c_Tx_init {a m : Nat} (ha : a < nx) (hd : 1 ≤ d) (hm : m < 2 ^ 20) (h1 : w a = aObj 1 [.null, .int 0]) : AC G y_Tx_init b_Tx_init 2 none d true [rf G a, .int (nI m)] nx w 1 m (fun r w' nx' => r = none ∧ w' = aw_up (aw_up w nx (aCh G m (fun _ => 0))) a (oTx G nx 0) ∧ nx' = nx + 1) := by
  have hne : a ≠ nx := by omega
  refine AC.ofW (by decide) (Nat.le_of_ble_eq_true rfl) ?_
  intro E P hP Y X
  have X : aw_X G "RescanDesk$Text" b_Tx_init 2 none "<init>" _ _ _ _ _ E := X
  refine AW.eql (lv' := [(0, _), (1, _)]) (by rfl) ?_
  refine aw_aload_nR (pc := 0) X d_Tx_init_0 (by rfl) ?_
  refine aw_objInit (pc := 1) X k_101 k_94 k_95 d_Tx_init_1 (by omega) (Nat.le_trans (m := 20) (Nat.le_of_ble_eq_true rfl) (by omega)) ?_
  refine aw_aload_nR (pc := 4) X d_Tx_init_4 (by rfl) ?_
  refine aw_iload_n (pc := 5) X d_Tx_init_5 (by rfl) ?_
  refine aw_newaN (pc := 6) X (atype := .char) (ty := .char) rfl 0 (by rfl) (by intro C h; cases h) rfl (by decide) rfl (by omega) k_125 (by omega) (by omega) (by omega) d_Tx_init_6 ?_
  refine aw_putFO (pc := 8) X _ 0 (by omega) (by (repeat (first | rw [aw_up_eq] | rw [aw_up_ne _ _ (by first | assumption | omega)])) <;> first | assumption | rfl) (by rfl) in_Tx (by decide) ty_Tx ok_Tx nm_Tx k_102 (by rfl) (by rfl) (by rfl) (by rfl) (by rfl) (by simp) (fs' := [_, _]) (by rfl) d_Tx_init_8 ?_
  refine aw_aload_nR (pc := 11) X d_Tx_init_11 (by rfl) ?_
  refine aw_iconstN (pc := 12) X 0 d_Tx_init_12 (by decide) ?_
  refine aw_putO (pc := 13) X _ 1 (by omega) (by (repeat (first | rw [aw_up_eq] | rw [aw_up_ne _ _ (by first | assumption | omega)])) <;> first | assumption | rfl) (by rfl) in_Tx (by decide) ty_Tx ok_Tx nm_Tx k_111 (by rfl) (by rfl) (by rfl) (by simp) (fs' := [_, _]) (by rfl) d_Tx_init_13 ?_
  refine aw_vret Y X rfl d_Tx_init_16 (by omega) (by omega) (hP _ _ _ ?_)
  -- ret 16 lv=0:r,1:n st=
  refine ⟨rfl, ?_, rfl⟩
  funext x
  simp only [aw_up_if]
  by_cases h : x = a
  · simp [h, hne]; rfl
  · simp [h]; rfl
/-- add(c) -/
theorem c_Tx_add {a c n m x : Nat} {g : Nat → Nat} (ha : a < nx) (hc : c < nx) (hac : a ≠ c) (hm : m < 2 ^ 31) (hx : x < 65536) (hn : n ≤ m) (h1 : w a = oTx G c n) (h2 : w c = aCh G m g) : AC G y_Tx_add b_Tx_add 2 (some .boolean) d false [rf G a, .int (nI x)] nx w 0 0 (fun r w' nx' => nx' = nx ∧ ((n < m ∧ r = some (.int (nI 1)) ∧ w' = aw_up (aw_up w c (aCh G m (aw_un g n x))) a (oTx G c (n + 1))) ∨ (m ≤ n ∧ r = some (.int (nI 0)) ∧ w' = w))) := by
  refine AC.ofW (by decide) (Nat.le_of_ble_eq_true rfl) ?_
  intro E P hP Y X
  have X : aw_X G "RescanDesk$Text" b_Tx_add 2 (some .boolean) "add" _ _ _ _ _ E := X
  refine AW.eql (lv' := [(0, _), (1, _)]) (by rfl) ?_
  refine aw_aload_nR (pc := 0) X d_Tx_add_0 (by rfl) ?_
  refine aw_getO (pc := 1) X _ 1 (by omega) (by (repeat (first | rw [aw_up_eq] | rw [aw_up_ne _ _ (by first | assumption | omega)])) <;> first | assumption | rfl) (by rfl) in_Tx (by decide) k_111 (by rfl) d_Tx_add_1 ?_
  refine aw_aload_nR (pc := 4) X d_Tx_add_4 (by rfl) ?_
  refine aw_getO (pc := 5) X _ 0 (by omega) (by (repeat (first | rw [aw_up_eq] | rw [aw_up_ne _ _ (by first | assumption | omega)])) <;> first | assumption | rfl) (by rfl) in_Tx (by decide) k_102 (by rfl) d_Tx_add_5 ?_
  refine aw_alenN (pc := 8) X _ 0 (by omega) (by (repeat (first | rw [aw_up_eq] | rw [aw_up_ne _ _ (by first | assumption | omega)])) <;> first | assumption | rfl) (by rfl) d_Tx_add_8 ?_
  refine aw_icmp_ltN (pc := 9) X (tgt := 14) d_Tx_add_9 (by rfl) (by omega) (by omega) (fun h9 => ?_) (fun h9 => ?_)
  -- br 9 lv=0:r,1:n st=
  · refine aw_aload_nR (pc := 14) X d_Tx_add_14 (by rfl) ?_
    refine aw_getO (pc := 15) X _ 0 (by omega) (by (repeat (first | rw [aw_up_eq] | rw [aw_up_ne _ _ (by first | assumption | omega)])) <;> first | assumption | rfl) (by rfl) in_Tx (by decide) k_102 (by rfl) d_Tx_add_15 ?_
    refine aw_aload_nR (pc := 18) X d_Tx_add_18 (by rfl) ?_
    refine aw_getO (pc := 19) X _ 1 (by omega) (by (repeat (first | rw [aw_up_eq] | rw [aw_up_ne _ _ (by first | assumption | omega)])) <;> first | assumption | rfl) (by rfl) in_Tx (by decide) k_111 (by rfl) d_Tx_add_19 ?_
    refine aw_iload_n (pc := 22) X d_Tx_add_22 (by rfl) ?_
    refine aw_castN (pc := 23) X _ 0 (by omega) (by (repeat (first | rw [aw_up_eq] | rw [aw_up_ne _ _ (by first | assumption | omega)])) <;> first | assumption | rfl) (by rfl) (by omega) (by omega) (by omega) d_Tx_add_23 ?_
    refine aw_aload_nR (pc := 24) X d_Tx_add_24 (by rfl) ?_
    refine aw_dup (pc := 25) X d_Tx_add_25 (by rfl) ?_
    refine aw_getO (pc := 26) X _ 1 (by omega) (by (repeat (first | rw [aw_up_eq] | rw [aw_up_ne _ _ (by first | assumption | omega)])) <;> first | assumption | rfl) (by rfl) in_Tx (by decide) k_111 (by rfl) d_Tx_add_26 ?_
    refine aw_iconstN (pc := 29) X 1 d_Tx_add_29 (by decide) ?_
    refine aw_iaddN (pc := 30) X d_Tx_add_30 ?_
    refine aw_putO (pc := 31) X _ 1 (by omega) (by (repeat (first | rw [aw_up_eq] | rw [aw_up_ne _ _ (by first | assumption | omega)])) <;> first | assumption | rfl) (by rfl) in_Tx (by decide) ty_Tx ok_Tx nm_Tx k_111 (by rfl) (by rfl) (by rfl) (by simp) (fs' := [_, _]) (by rfl) d_Tx_add_31 ?_
    refine aw_iconstN (pc := 34) X 1 d_Tx_add_34 (by decide) ?_
    refine aw_zret Y X rfl (by decide +kernel) d_Tx_add_35 (by omega) (by omega) (hP _ _ _ ?_)
    -- ret 35 lv=0:r,1:n st=n
    exact ⟨rfl, Or.inl ⟨h9, rfl, rfl⟩⟩
  · refine aw_iconstN (pc := 12) X 0 d_Tx_add_12 (by decide) ?_
    refine aw_zret Y X rfl (by decide +kernel) d_Tx_add_13 (by omega) (by omega) (hP _ _ _ ?_)
    -- ret 13 lv=0:r,1:n st=n
    exact ⟨rfl, Or.inr ⟨h9, rfl, rfl⟩⟩
/-- hasRoomFor(other) -/
theorem c_Tx_hasRoomFor {a c n m a2 c2 n2 : Nat} {g : Nat → Nat} (ha : a < nx) (hc : c < nx) (ha2 : a2 < nx) (hm : m < 2 ^ 31) (hn : n ≤ m) (hn2 : n2 < 2 ^ 31) (h1 : w a = oTx G c n) (h2 : w c = aCh G m g) (h3 : w a2 = oTx G c2 n2) : AC G y_Tx_hasRoomFor b_Tx_hasRoomFor 2 (some .boolean) d false [rf G a, rf G a2] nx w 0 0 (fun r w' nx' => nx' = nx ∧ w' = w ∧ r = some (.int (nI (bN (decide (n + n2 ≤ m)))))) := by
  refine AC.ofW (by decide) (Nat.le_of_ble_eq_true rfl) ?_
  intro E P hP Y X
  have X : aw_X G "RescanDesk$Text" b_Tx_hasRoomFor 2 (some .boolean) "hasRoomFor" _ _ _ _ _ E := X
  refine AW.eql (lv' := [(0, _), (1, _)]) (by rfl) ?_
  refine aw_aload_nR (pc := 0) X d_Tx_hasRoomFor_0 (by rfl) ?_
  refine aw_getO (pc := 1) X _ 1 (by omega) (by (repeat (first | rw [aw_up_eq] | rw [aw_up_ne _ _ (by first | assumption | omega)])) <;> first | assumption | rfl) (by rfl) in_Tx (by decide) k_111 (by rfl) d_Tx_hasRoomFor_1 ?_
  refine aw_aload_nR (pc := 4) X d_Tx_hasRoomFor_4 (by rfl) ?_
  refine aw_getO (pc := 5) X _ 0 (by omega) (by (repeat (first | rw [aw_up_eq] | rw [aw_up_ne _ _ (by first | assumption | omega)])) <;> first | assumption | rfl) (by rfl) in_Tx (by decide) k_102 (by rfl) d_Tx_hasRoomFor_5 ?_
  refine aw_alenN (pc := 8) X _ 0 (by omega) (by (repeat (first | rw [aw_up_eq] | rw [aw_up_ne _ _ (by first | assumption | omega)])) <;> first | assumption | rfl) (by rfl) d_Tx_hasRoomFor_8 ?_
  refine aw_aload_nR (pc := 9) X d_Tx_hasRoomFor_9 (by rfl) ?_
  refine aw_getO (pc := 10) X _ 1 (by omega) (by (repeat (first | rw [aw_up_eq] | rw [aw_up_ne _ _ (by first | assumption | omega)])) <;> first | assumption | rfl) (by rfl) in_Tx (by decide) k_111 (by rfl) d_Tx_hasRoomFor_10 ?_
  refine aw_isubN (pc := 13) X d_Tx_hasRoomFor_13 (by omega) ?_
  refine aw_icmp_gtN (pc := 14) X (tgt := 21) d_Tx_hasRoomFor_14 (by rfl) (by omega) (by omega) (fun h14 => ?_) (fun h14 => ?_)
  -- br 14 lv=0:r,1:r st=
  · refine aw_iconstN (pc := 21) X 0 d_Tx_hasRoomFor_21 (by decide) ?_
    refine aw_zret Y X rfl (by decide +kernel) d_Tx_hasRoomFor_22 (by omega) (by omega) (hP _ _ _ ?_)
    -- ret 22 lv=0:r,1:r st=n
    rw [show decide (n + n2 ≤ m) = false from decide_eq_false (by omega)]
    exact ⟨rfl, rfl, rfl⟩
  · refine aw_iconstN (pc := 17) X 1 d_Tx_hasRoomFor_17 (by decide) ?_
    refine aw_goto (pc := 18) X (tgt := 22) d_Tx_hasRoomFor_18 (by rfl) ?_
    refine aw_zret Y X rfl (by decide +kernel) d_Tx_hasRoomFor_22 (by omega) (by omega) (hP _ _ _ ?_)
    -- ret 22 lv=0:r,1:r st=n
    rw [show decide (n + n2 ≤ m) = true from decide_eq_true (by omega)]
    exact ⟨rfl, rfl, rfl⟩
/-- addPart(from, s, t): all that there is room for -/
def tx_add (G : aw_G) (w : Nat → va_E) (a c n m : Nat) (g f : Nat → Nat) (s k : Nat) : Nat → va_E := aw_up (aw_up w c (aCh G m (aw_cpn f g s n k))) a (oTx G c (n + k))
theorem c_Tx_addPart {a c n m q l s t : Nat} {g f : Nat → Nat} (ha : a < nx) (hc : c < nx) (hq : q < nx) (hac : a ≠ c) (hd : 1 ≤ d) (hm : m < 2 ^ 20) (hl : l < 2 ^ 20) (hn : n ≤ m) (hst : s ≤ t) (htl : t ≤ l) (hf : ∀ j, f j < 65536) (h1 : w a = oTx G c n) (h2 : w c = aCh G m g) (h3 : w q = aCh G l f) : AC G y_Tx_addPart b_Tx_addPart 5 (some .boolean) d false [rf G a, rf G q, .int (nI s), .int (nI t)] nx w 0 0 (fun r w' nx' => nx' = nx ∧ r = some (.int (nI (bN (decide (n + (t - s) ≤ m))))) ∧ w' = if min (t - s) (m - n) = 0 then w else tx_add G w a c n m g f s (min (t - s) (m - n))) := by
  refine AC.ofW (by decide) (Nat.le_of_ble_eq_true rfl) ?_
  intro E P hP Y X
  have X : aw_X G "RescanDesk$Text" b_Tx_addPart 5 (some .boolean) "addPart" _ _ _ _ _ E := X
  refine AW.eql (lv' := [(0, _), (1, _), (2, _), (3, _)]) (by rfl) ?_
  refine aw_iload_n (pc := 0) X d_Tx_addPart_0 (by rfl) ?_
  refine aw_iload_n (pc := 1) X d_Tx_addPart_1 (by rfl) ?_
  refine aw_isubN (pc := 2) X d_Tx_addPart_2 (by omega) ?_
  refine aw_aload_nR (pc := 3) X d_Tx_addPart_3 (by rfl) ?_
  refine aw_getO (pc := 4) X _ 0 (by omega) (by (repeat (first | rw [aw_up_eq] | rw [aw_up_ne _ _ (by first | assumption | omega)])) <;> first | assumption | rfl) (by rfl) in_Tx (by decide) k_102 (by rfl) d_Tx_addPart_4 ?_
  refine aw_alenN (pc := 7) X _ 0 (by omega) (by (repeat (first | rw [aw_up_eq] | rw [aw_up_ne _ _ (by first | assumption | omega)])) <;> first | assumption | rfl) (by rfl) d_Tx_addPart_7 ?_
  refine aw_aload_nR (pc := 8) X d_Tx_addPart_8 (by rfl) ?_
  refine aw_getO (pc := 9) X _ 1 (by omega) (by (repeat (first | rw [aw_up_eq] | rw [aw_up_ne _ _ (by first | assumption | omega)])) <;> first | assumption | rfl) (by rfl) in_Tx (by decide) k_111 (by rfl) d_Tx_addPart_9 ?_
  refine aw_isubN (pc := 12) X d_Tx_addPart_12 (by omega) ?_
  refine aw_mminN (pc := 13) X (by omega) (by omega) k_550 k_551 k_85 k_552 (by omega) (Nat.le_trans (m := 24) (Nat.le_of_ble_eq_true rfl) (by omega)) (by omega) (by omega) d_Tx_addPart_13 ?_
  refine aw_istore (pc := 16) X (lv' := [(4, _), (0, _), (1, _), (2, _), (3, _)]) d_Tx_addPart_16 (by decide) (by rfl) ?_
  refine aw_iload (pc := 18) X d_Tx_addPart_18 (by rfl) ?_
  refine aw_if_leN (pc := 20) X (tgt := 49) d_Tx_addPart_20 (by rfl) (by omega) (fun h20 => ?_) (fun h20 => ?_)
  -- br 20 lv=4:n,0:r,1:r,2:n,3:n st=
  · rw [Nat.le_zero.mp h20]
    refine aw_iload_n (pc := 49) X d_Tx_addPart_49 (by rfl) ?_
    refine aw_iload_n (pc := 50) X d_Tx_addPart_50 (by rfl) ?_
    refine aw_isubN (pc := 51) X d_Tx_addPart_51 (by omega) ?_
    refine aw_iload (pc := 52) X d_Tx_addPart_52 (by rfl) ?_
    refine aw_icmp_gtN (pc := 54) X (tgt := 61) d_Tx_addPart_54 (by rfl) (by omega) (by omega) (fun h54 => ?_) (fun h54 => ?_)
    -- br 54 lv=4:n,0:r,1:r,2:n,3:n st=
    · refine aw_iconstN (pc := 61) X 0 d_Tx_addPart_61 (by decide) ?_
      refine aw_zret Y X rfl (by decide +kernel) d_Tx_addPart_62 (by omega) (by omega) (hP _ _ _ ?_)
      -- ret 62 lv=4:n,0:r,1:r,2:n,3:n st=n
      rw [show decide (n + (t - s) ≤ m) = false from decide_eq_false (by omega), if_pos (by omega)]
      exact ⟨rfl, rfl, rfl⟩
    · refine aw_iconstN (pc := 57) X 1 d_Tx_addPart_57 (by decide) ?_
      refine aw_goto (pc := 58) X (tgt := 62) d_Tx_addPart_58 (by rfl) ?_
      refine aw_zret Y X rfl (by decide +kernel) d_Tx_addPart_62 (by omega) (by omega) (hP _ _ _ ?_)
      -- ret 62 lv=4:n,0:r,1:r,2:n,3:n st=n
      rw [show decide (n + (t - s) ≤ m) = true from decide_eq_true (by omega), if_pos (by omega)]
      exact ⟨rfl, rfl, rfl⟩
  · refine aw_aload_nR (pc := 23) X d_Tx_addPart_23 (by rfl) ?_
    refine aw_iload_n (pc := 24) X d_Tx_addPart_24 (by rfl) ?_
    refine aw_aload_nR (pc := 25) X d_Tx_addPart_25 (by rfl) ?_
    refine aw_getO (pc := 26) X _ 0 (by omega) (by (repeat (first | rw [aw_up_eq] | rw [aw_up_ne _ _ (by first | assumption | omega)])) <;> first | assumption | rfl) (by rfl) in_Tx (by decide) k_102 (by rfl) d_Tx_addPart_26 ?_
    refine aw_aload_nR (pc := 29) X d_Tx_addPart_29 (by rfl) ?_
    refine aw_getO (pc := 30) X _ 1 (by omega) (by (repeat (first | rw [aw_up_eq] | rw [aw_up_ne _ _ (by first | assumption | omega)])) <;> first | assumption | rfl) (by rfl) in_Tx (by decide) k_111 (by rfl) d_Tx_addPart_30 ?_
    refine aw_iload (pc := 33) X d_Tx_addPart_33 (by rfl) ?_
    refine aw_copyC (pc := 35) X _ _ (by omega) (by (repeat (first | rw [aw_up_eq] | rw [aw_up_ne _ _ (by first | assumption | omega)])) <;> first | assumption | rfl) (by omega) (by (repeat (first | rw [aw_up_eq] | rw [aw_up_ne _ _ (by first | assumption | omega)])) <;> first | assumption | rfl) (by omega) (by omega) (by omega) (by omega) (by assumption) k_553 k_511 k_510 k_84 (by omega) (Nat.le_trans (m := 40) (Nat.le_of_ble_eq_true rfl) (by omega)) d_Tx_addPart_35 ?_
    refine aw_aload_nR (pc := 38) X d_Tx_addPart_38 (by rfl) ?_
    refine aw_dup (pc := 39) X d_Tx_addPart_39 (by rfl) ?_
    refine aw_getO (pc := 40) X _ 1 (by omega) (by (repeat (first | rw [aw_up_eq] | rw [aw_up_ne _ _ (by first | assumption | omega)])) <;> first | assumption | rfl) (by rfl) in_Tx (by decide) k_111 (by rfl) d_Tx_addPart_40 ?_
    refine aw_iload (pc := 43) X d_Tx_addPart_43 (by rfl) ?_
    refine aw_iaddN (pc := 45) X d_Tx_addPart_45 ?_
    refine aw_putO (pc := 46) X _ 1 (by omega) (by (repeat (first | rw [aw_up_eq] | rw [aw_up_ne _ _ (by first | assumption | omega)])) <;> first | assumption | rfl) (by rfl) in_Tx (by decide) ty_Tx ok_Tx nm_Tx k_111 (by rfl) (by rfl) (by rfl) (by simp) (fs' := [_, _]) (by rfl) d_Tx_addPart_46 ?_
    refine aw_iload_n (pc := 49) X d_Tx_addPart_49 (by rfl) ?_
    refine aw_iload_n (pc := 50) X d_Tx_addPart_50 (by rfl) ?_
    refine aw_isubN (pc := 51) X d_Tx_addPart_51 (by omega) ?_
    refine aw_iload (pc := 52) X d_Tx_addPart_52 (by rfl) ?_
    refine aw_icmp_gtN (pc := 54) X (tgt := 61) d_Tx_addPart_54 (by rfl) (by omega) (by omega) (fun h54 => ?_) (fun h54 => ?_)
    -- br 54 lv=4:n,0:r,1:r,2:n,3:n st=
    · refine aw_iconstN (pc := 61) X 0 d_Tx_addPart_61 (by decide) ?_
      refine aw_zret Y X rfl (by decide +kernel) d_Tx_addPart_62 (by omega) (by omega) (hP _ _ _ ?_)
      -- ret 62 lv=4:n,0:r,1:r,2:n,3:n st=n
      rw [show decide (n + (t - s) ≤ m) = false from decide_eq_false (by omega), if_neg (by omega)]
      exact ⟨rfl, rfl, rfl⟩
    · refine aw_iconstN (pc := 57) X 1 d_Tx_addPart_57 (by decide) ?_
      refine aw_goto (pc := 58) X (tgt := 62) d_Tx_addPart_58 (by rfl) ?_
      refine aw_zret Y X rfl (by decide +kernel) d_Tx_addPart_62 (by omega) (by omega) (hP _ _ _ ?_)
      -- ret 62 lv=4:n,0:r,1:r,2:n,3:n st=n
      rw [show decide (n + (t - s) ≤ m) = true from decide_eq_true (by omega), if_neg (by omega)]
      exact ⟨rfl, rfl, rfl⟩
/-- isSame(other, s, t) -/
theorem c_Tx_isSame {a c n m q l s t : Nat} {g f : Nat → Nat} (ha : a < nx) (hc : c < nx) (hq : q < nx) (hm : m < 2 ^ 20) (hl : l < 2 ^ 20) (hn : n ≤ m) (hst : s ≤ t) (htl : t ≤ l) (hg : ∀ j, g j < 65536) (hf : ∀ j, f j < 65536) (h1 : w a = oTx G c n) (h2 : w c = aCh G m g) (h3 : w q = aCh G l f) : AC G y_Tx_isSame b_Tx_isSame 5 (some .boolean) d false [rf G a, rf G q, .int (nI s), .int (nI t)] nx w 0 0 (fun r w' nx' => nx' = nx ∧ w' = w ∧ r = some (.int (nI (bN (decide (sl g 0 n = sl f s (t - s))))))) := by
  refine AC.ofW (by decide) (Nat.le_of_ble_eq_true rfl) ?_
  intro E P hP Y X
  have X : aw_X G "RescanDesk$Text" b_Tx_isSame 5 (some .boolean) "isSame" _ _ _ _ _ E := X
  refine AW.eql (lv' := [(0, _), (1, _), (2, _), (3, _)]) (by rfl) ?_
  refine aw_iload_n (pc := 0) X d_Tx_isSame_0 (by rfl) ?_
  refine aw_iload_n (pc := 1) X d_Tx_isSame_1 (by rfl) ?_
  refine aw_isubN (pc := 2) X d_Tx_isSame_2 (by omega) ?_
  refine aw_aload_nR (pc := 3) X d_Tx_isSame_3 (by rfl) ?_
  refine aw_getO (pc := 4) X _ 1 (by omega) (by (repeat (first | rw [aw_up_eq] | rw [aw_up_ne _ _ (by first | assumption | omega)])) <;> first | assumption | rfl) (by rfl) in_Tx (by decide) k_111 (by rfl) d_Tx_isSame_4 ?_
  refine aw_icmp_eqN (pc := 7) X (tgt := 12) d_Tx_isSame_7 (by rfl) (by omega) (by omega) (fun h7 => ?_) (fun h7 => ?_)
  -- br 7 lv=0:r,1:r,2:n,3:n st=
  · have L : ∀ (k i : Nat), i + k = n → (∀ j, j < i → g j = f (s + j)) → AW G E 5 nx 0 0 w 15 [(4, .int (nI i)), (0, rf G a), (1, rf G q), (2, .int (nI s)), (3, .int (nI t))] [] := by
      intro k
      induction k with
      | zero =>
        intro i hi hj
        refine aw_iload (pc := 15) X d_Tx_isSame_15 (by rfl) ?_
        refine aw_aload_nR (pc := 17) X d_Tx_isSame_17 (by rfl) ?_
        refine aw_getO (pc := 18) X _ 1 (by omega) (by (repeat (first | rw [aw_up_eq] | rw [aw_up_ne _ _ (by first | assumption | omega)])) <;> first | assumption | rfl) (by rfl) in_Tx (by decide) k_111 (by rfl) d_Tx_isSame_18 ?_
        refine aw_icmp_geN (pc := 21) X (tgt := 48) d_Tx_isSame_21 (by rfl) (by omega) (by omega) (fun h21 => ?_) (fun h21 => ?_)
        -- br 21 lv=4:n,0:r,1:r,2:n,3:n st=
        · refine aw_iconstN (pc := 48) X 1 d_Tx_isSame_48 (by decide) ?_
          refine aw_zret Y X rfl (by decide +kernel) d_Tx_isSame_49 (by omega) (by omega) (hP _ _ _ ?_)
          -- ret 49 lv=4:n,0:r,1:r,2:n,3:n st=n
          rw [show decide (sl g 0 n = sl f s (t - s)) = true from decide_eq_true (by rw [h7]; exact sl_eq.mpr (fun j hj' => by rw [Nat.zero_add]; exact hj j (by omega)))]
          exact ⟨rfl, rfl, rfl⟩
        · omega
      | succ k ih =>
        intro i hi hj
        have hgi := hg i
        have hfi := hf (s + i)
        refine aw_iload (pc := 15) X d_Tx_isSame_15 (by rfl) ?_
        refine aw_aload_nR (pc := 17) X d_Tx_isSame_17 (by rfl) ?_
        refine aw_getO (pc := 18) X _ 1 (by omega) (by (repeat (first | rw [aw_up_eq] | rw [aw_up_ne _ _ (by first | assumption | omega)])) <;> first | assumption | rfl) (by rfl) in_Tx (by decide) k_111 (by rfl) d_Tx_isSame_18 ?_
        refine aw_icmp_geN (pc := 21) X (tgt := 48) d_Tx_isSame_21 (by rfl) (by omega) (by omega) (fun h21 => ?_) (fun h21 => ?_)
        -- br 21 lv=4:n,0:r,1:r,2:n,3:n st=
        · omega
        · refine aw_aload_nR (pc := 24) X d_Tx_isSame_24 (by rfl) ?_
          refine aw_getO (pc := 25) X _ 0 (by omega) (by (repeat (first | rw [aw_up_eq] | rw [aw_up_ne _ _ (by first | assumption | omega)])) <;> first | assumption | rfl) (by rfl) in_Tx (by decide) k_102 (by rfl) d_Tx_isSame_25 ?_
          refine aw_iload (pc := 28) X d_Tx_isSame_28 (by rfl) ?_
          refine aw_caldN (pc := 30) X _ 0 (by omega) (by (repeat (first | rw [aw_up_eq] | rw [aw_up_ne _ _ (by first | assumption | omega)])) <;> first | assumption | rfl) (by rfl) (by omega) (by omega) d_Tx_isSame_30 ?_
          refine aw_aload_nR (pc := 31) X d_Tx_isSame_31 (by rfl) ?_
          refine aw_iload_n (pc := 32) X d_Tx_isSame_32 (by rfl) ?_
          refine aw_iload (pc := 33) X d_Tx_isSame_33 (by rfl) ?_
          refine aw_iaddN (pc := 35) X d_Tx_isSame_35 ?_
          refine aw_caldN (pc := 36) X _ 0 (by omega) (by (repeat (first | rw [aw_up_eq] | rw [aw_up_ne _ _ (by first | assumption | omega)])) <;> first | assumption | rfl) (by rfl) (by omega) (by omega) d_Tx_isSame_36 ?_
          refine aw_icmp_eqN (pc := 37) X (tgt := 42) d_Tx_isSame_37 (by rfl) (by omega) (by omega) (fun h37 => ?_) (fun h37 => ?_)
          -- br 37 lv=4:n,0:r,1:r,2:n,3:n st=
          · refine aw_iincN (pc := 42) X 1 (lv' := [(4, _), (0, _), (1, _), (2, _), (3, _)]) d_Tx_isSame_42 (by rfl) (by decide) (by decide) (by rfl) ?_
            refine aw_goto (pc := 45) X (tgt := 15) d_Tx_isSame_45 (by rfl) ?_
            -- stop 15 lv=4:n,0:r,1:r,2:n,3:n st=
            exact ih (i + 1) (by omega) (fun j hj' => by
              rcases Nat.lt_succ_iff_lt_or_eq.mp hj' with h | h
              · exact hj j h
              · rw [h]; exact h37)
          · refine aw_iconstN (pc := 40) X 0 d_Tx_isSame_40 (by decide) ?_
            refine aw_zret Y X rfl (by decide +kernel) d_Tx_isSame_41 (by omega) (by omega) (hP _ _ _ ?_)
            -- ret 41 lv=4:n,0:r,1:r,2:n,3:n st=n
            rw [show decide (sl g 0 n = sl f s (t - s)) = false from decide_eq_false (fun e => h37 (by
              rw [h7] at e
              have := sl_eq.mp e i (by omega)
              rwa [Nat.zero_add] at this))]
            exact ⟨rfl, rfl, rfl⟩
    refine aw_iconstN (pc := 12) X 0 d_Tx_isSame_12 (by decide) ?_
    refine aw_istore (pc := 13) X (lv' := [(4, _), (0, _), (1, _), (2, _), (3, _)]) d_Tx_isSame_13 (by decide) (by rfl) ?_
    -- stop 15 lv=4:n,0:r,1:r,2:n,3:n st=
    exact L n 0 (by omega) (fun j hj => absurd hj (by omega))
  · refine aw_iconstN (pc := 10) X 0 d_Tx_isSame_10 (by decide) ?_
    refine aw_zret Y X rfl (by decide +kernel) d_Tx_isSame_11 (by omega) (by omega) (hP _ _ _ ?_)
    -- ret 11 lv=0:r,1:r,2:n,3:n st=n
    rw [show decide (sl g 0 n = sl f s (t - s)) = false from decide_eq_false (fun e => h7 (by have := congrArg List.length e; rw [sl_len, sl_len] at this; omega))]
    exact ⟨rfl, rfl, rfl⟩
/-- set(from, s, t) -/
theorem c_Tx_set {a c n m q l s t : Nat} {g f : Nat → Nat} (ha : a < nx) (hc : c < nx) (hq : q < nx) (hac : a ≠ c) (haq : a ≠ q) (hd : 2 ≤ d) (hm : m < 2 ^ 20) (hl : l < 2 ^ 20) (hst : s ≤ t) (htl : t ≤ l) (hf : ∀ j, f j < 65536) (h1 : w a = oTx G c n) (h2 : w c = aCh G m g) (h3 : w q = aCh G l f) : AC G y_Tx_set b_Tx_set 4 none d false [rf G a, rf G q, .int (nI s), .int (nI t)] nx w 0 0 (fun r w' nx' => nx' = nx ∧ r = none ∧ w' = aw_up (aw_up w c (aCh G m (aw_cpn f g s 0 (min (t - s) m)))) a (oTx G c (min (t - s) m))) := by
  have hca : c ≠ a := Ne.symm hac
  have hqa : q ≠ a := Ne.symm haq
  refine AC.ofW (by decide) (Nat.le_of_ble_eq_true rfl) ?_
  intro E P hP Y X
  have X : aw_X G "RescanDesk$Text" b_Tx_set 4 none "set" _ _ _ _ _ E := X
  refine AW.eql (lv' := [(0, _), (1, _), (2, _), (3, _)]) (by rfl) ?_
  refine aw_aload_nR (pc := 0) X d_Tx_set_0 (by rfl) ?_
  refine aw_iconstN (pc := 1) X 0 d_Tx_set_1 (by decide) ?_
  refine aw_putO (pc := 2) X _ 1 (by omega) (by (repeat (first | rw [aw_up_eq] | rw [aw_up_ne _ _ (by first | assumption | omega)])) <;> first | assumption | rfl) (by rfl) in_Tx (by decide) ty_Tx ok_Tx nm_Tx k_111 (by rfl) (by rfl) (by rfl) (by simp) (fs' := [_, _]) (by rfl) d_Tx_set_2 ?_
  refine aw_aload_nR (pc := 5) X d_Tx_set_5 (by rfl) ?_
  refine aw_aload_nR (pc := 6) X d_Tx_set_6 (by rfl) ?_
  refine aw_iload_n (pc := 7) X d_Tx_set_7 (by rfl) ?_
  refine aw_iload_n (pc := 8) X d_Tx_set_8 (by rfl) ?_
  -- invokevirtual 9 lv=0:r,1:r,2:n,3:n st=n,n,r,r
  refine aw_callV (pc := 9) X _ (c_Tx_addPart (d := 1) (a := a) (c := c) (n := 0) (m := m) (q := q) (l := l) (g := g) (f := f) ha hc hq hac (by omega) hm hl (by omega) hst htl hf (by rw [aw_up_eq]; rfl) (by rw [aw_up_ne _ _ hca]; exact h2) (by rw [aw_up_ne _ _ hqa]; exact h3)) q_Tx_addPart k_580 k_547 k_548 (by omega) (by (repeat (first | rw [aw_up_eq] | rw [aw_up_ne _ _ (by first | assumption | omega)])) <;> first | assumption | rfl) (by rfl) d_Tx_set_9 (by omega) (Nat.le_of_ble_eq_true rfl) ⟨by omega, by omega⟩ (fun h => by cases h) (fun r w' nx' hp => ?_)
  obtain ⟨rfl, rfl, rfl⟩ := hp
  refine aw_pop (pc := 12) X d_Tx_set_12 (by rfl) ?_
  refine aw_vret Y X rfl d_Tx_set_13 (by omega) (by omega) (hP _ _ _ ?_)
  -- ret 13 lv=0:r,1:r,2:n,3:n st=
  refine ⟨rfl, rfl, ?_⟩
  funext x
  simp only [Nat.sub_zero, tx_add, Nat.zero_add]
  by_cases hk : min (t - s) m = 0
  · rw [if_pos hk, hk]
    simp only [aw_up_if]
    by_cases h : x = a
    · simp [h]; rfl
    · by_cases hx : x = c
      · simp [h, hx, hca, h2]
        congr 1
      · simp [h, hx]
  · rw [if_neg hk]
    simp only [aw_up_if]
    by_cases h : x = a
    · simp [h]
    · simp [h]
end
end
section
/-! characters, names, numbers (static methods of RescanDesk); RescanDesk$Front -/
def y_Rd_isLetter : MethodName := ⟨"RescanDesk", "isLetter", "(C)Z"⟩
abbrev b_Rd_isLetter : ByteArray := prog_1_method_14_code
theorem d_Rd_isLetter_0 : decode b_Rd_isLetter 0 = .ok (.iload_n 0, 1) := by decide +kernel
theorem d_Rd_isLetter_1 : decode b_Rd_isLetter 1 = .ok (.bipush 97, 2) := by decide +kernel
theorem d_Rd_isLetter_3 : decode b_Rd_isLetter 3 = .ok (.if_icmp .lt 9, 3) := by decide +kernel
theorem d_Rd_isLetter_6 : decode b_Rd_isLetter 6 = .ok (.iload_n 0, 1) := by decide +kernel
theorem d_Rd_isLetter_7 : decode b_Rd_isLetter 7 = .ok (.bipush 122, 2) := by decide +kernel
theorem d_Rd_isLetter_9 : decode b_Rd_isLetter 9 = .ok (.if_icmp .le 21, 3) := by decide +kernel
theorem d_Rd_isLetter_12 : decode b_Rd_isLetter 12 = .ok (.iload_n 0, 1) := by decide +kernel
theorem d_Rd_isLetter_13 : decode b_Rd_isLetter 13 = .ok (.bipush 65, 2) := by decide +kernel
theorem d_Rd_isLetter_15 : decode b_Rd_isLetter 15 = .ok (.if_icmp .lt 9, 3) := by decide +kernel
theorem d_Rd_isLetter_18 : decode b_Rd_isLetter 18 = .ok (.iload_n 0, 1) := by decide +kernel
theorem d_Rd_isLetter_19 : decode b_Rd_isLetter 19 = .ok (.bipush 90, 2) := by decide +kernel
theorem d_Rd_isLetter_21 : decode b_Rd_isLetter 21 = .ok (.if_icmp .le 9, 3) := by decide +kernel
theorem d_Rd_isLetter_24 : decode b_Rd_isLetter 24 = .ok (.iload_n 0, 1) := by decide +kernel
theorem d_Rd_isLetter_25 : decode b_Rd_isLetter 25 = .ok (.bipush 95, 2) := by decide +kernel
theorem d_Rd_isLetter_27 : decode b_Rd_isLetter 27 = .ok (.if_icmp .ne 7, 3) := by decide +kernel
theorem d_Rd_isLetter_30 : decode b_Rd_isLetter 30 = .ok (.iconst 1, 1) := by decide +kernel
theorem d_Rd_isLetter_31 : decode b_Rd_isLetter 31 = .ok (.goto 4, 3) := by decide +kernel
theorem d_Rd_isLetter_34 : decode b_Rd_isLetter 34 = .ok (.iconst 0, 1) := by decide +kernel
theorem d_Rd_isLetter_35 : decode b_Rd_isLetter 35 = .ok (.ireturn, 1) := by decide +kernel
theorem q_Rd_isLetter : aw_q1 y_Rd_isLetter b_Rd_isLetter 1 (some .boolean) 1 := ⟨k_556, k_63, ⟨by decide, by decide, by decide +kernel⟩, by decide⟩
def y_Rd_isDigit : MethodName := ⟨"RescanDesk", "isDigit", "(C)Z"⟩
abbrev b_Rd_isDigit : ByteArray := prog_1_method_15_code
theorem d_Rd_isDigit_0 : decode b_Rd_isDigit 0 = .ok (.iload_n 0, 1) := by decide +kernel
theorem d_Rd_isDigit_1 : decode b_Rd_isDigit 1 = .ok (.bipush 48, 2) := by decide +kernel
theorem d_Rd_isDigit_3 : decode b_Rd_isDigit 3 = .ok (.if_icmp .lt 13, 3) := by decide +kernel
theorem d_Rd_isDigit_6 : decode b_Rd_isDigit 6 = .ok (.iload_n 0, 1) := by decide +kernel
theorem d_Rd_isDigit_7 : decode b_Rd_isDigit 7 = .ok (.bipush 57, 2) := by decide +kernel
theorem d_Rd_isDigit_9 : decode b_Rd_isDigit 9 = .ok (.if_icmp .gt 7, 3) := by decide +kernel
theorem d_Rd_isDigit_12 : decode b_Rd_isDigit 12 = .ok (.iconst 1, 1) := by decide +kernel
theorem d_Rd_isDigit_13 : decode b_Rd_isDigit 13 = .ok (.goto 4, 3) := by decide +kernel
theorem d_Rd_isDigit_16 : decode b_Rd_isDigit 16 = .ok (.iconst 0, 1) := by decide +kernel
theorem d_Rd_isDigit_17 : decode b_Rd_isDigit 17 = .ok (.ireturn, 1) := by decide +kernel
theorem q_Rd_isDigit : aw_q1 y_Rd_isDigit b_Rd_isDigit 1 (some .boolean) 1 := ⟨k_566, k_63, ⟨by decide, by decide, by decide +kernel⟩, by decide⟩
def y_Rd_isBlank : MethodName := ⟨"RescanDesk", "isBlank", "(C)Z"⟩
abbrev b_Rd_isBlank : ByteArray := prog_1_method_16_code
theorem d_Rd_isBlank_0 : decode b_Rd_isBlank 0 = .ok (.iload_n 0, 1) := by decide +kernel
theorem d_Rd_isBlank_1 : decode b_Rd_isBlank 1 = .ok (.bipush 32, 2) := by decide +kernel
theorem d_Rd_isBlank_3 : decode b_Rd_isBlank 3 = .ok (.if_icmp .eq 9, 3) := by decide +kernel
theorem d_Rd_isBlank_6 : decode b_Rd_isBlank 6 = .ok (.iload_n 0, 1) := by decide +kernel
theorem d_Rd_isBlank_7 : decode b_Rd_isBlank 7 = .ok (.bipush 10, 2) := by decide +kernel
theorem d_Rd_isBlank_9 : decode b_Rd_isBlank 9 = .ok (.if_icmp .ne 7, 3) := by decide +kernel
theorem d_Rd_isBlank_12 : decode b_Rd_isBlank 12 = .ok (.iconst 1, 1) := by decide +kernel
theorem d_Rd_isBlank_13 : decode b_Rd_isBlank 13 = .ok (.goto 4, 3) := by decide +kernel
theorem d_Rd_isBlank_16 : decode b_Rd_isBlank 16 = .ok (.iconst 0, 1) := by decide +kernel
theorem d_Rd_isBlank_17 : decode b_Rd_isBlank 17 = .ok (.ireturn, 1) := by decide +kernel
theorem q_Rd_isBlank : aw_q1 y_Rd_isBlank b_Rd_isBlank 1 (some .boolean) 1 := ⟨k_607, k_63, ⟨by decide, by decide, by decide +kernel⟩, by decide⟩
def y_Rd_nameEnd : MethodName := ⟨"RescanDesk", "nameEnd", "([CII)I"⟩
abbrev b_Rd_nameEnd : ByteArray := prog_1_method_17_code
theorem d_Rd_nameEnd_0 : decode b_Rd_nameEnd 0 = .ok (.iload_n 1, 1) := by decide +kernel
theorem d_Rd_nameEnd_1 : decode b_Rd_nameEnd 1 = .ok (.iload_n 2, 1) := by decide +kernel
theorem d_Rd_nameEnd_2 : decode b_Rd_nameEnd 2 = .ok (.if_icmp .ge 12, 3) := by decide +kernel
theorem d_Rd_nameEnd_5 : decode b_Rd_nameEnd 5 = .ok (.aload_n 0, 1) := by decide +kernel
theorem d_Rd_nameEnd_6 : decode b_Rd_nameEnd 6 = .ok (.iload_n 1, 1) := by decide +kernel
theorem d_Rd_nameEnd_7 : decode b_Rd_nameEnd 7 = .ok (.caload, 1) := by decide +kernel
theorem d_Rd_nameEnd_8 : decode b_Rd_nameEnd 8 = .ok (.invokestatic 135, 3) := by decide +kernel
theorem d_Rd_nameEnd_11 : decode b_Rd_nameEnd 11 = .ok (.ifCond .ne 5, 3) := by decide +kernel
theorem d_Rd_nameEnd_14 : decode b_Rd_nameEnd 14 = .ok (.iload_n 1, 1) := by decide +kernel
theorem d_Rd_nameEnd_15 : decode b_Rd_nameEnd 15 = .ok (.ireturn, 1) := by decide +kernel
theorem d_Rd_nameEnd_16 : decode b_Rd_nameEnd 16 = .ok (.iload_n 1, 1) := by decide +kernel
theorem d_Rd_nameEnd_17 : decode b_Rd_nameEnd 17 = .ok (.iconst 1, 1) := by decide +kernel
theorem d_Rd_nameEnd_18 : decode b_Rd_nameEnd 18 = .ok (.iadd, 1) := by decide +kernel
theorem d_Rd_nameEnd_19 : decode b_Rd_nameEnd 19 = .ok (.istore_n 3, 1) := by decide +kernel
theorem d_Rd_nameEnd_20 : decode b_Rd_nameEnd 20 = .ok (.iload_n 3, 1) := by decide +kernel
theorem d_Rd_nameEnd_21 : decode b_Rd_nameEnd 21 = .ok (.iload_n 2, 1) := by decide +kernel
theorem d_Rd_nameEnd_22 : decode b_Rd_nameEnd 22 = .ok (.if_icmp .ge 27, 3) := by decide +kernel
theorem d_Rd_nameEnd_25 : decode b_Rd_nameEnd 25 = .ok (.aload_n 0, 1) := by decide +kernel
theorem d_Rd_nameEnd_26 : decode b_Rd_nameEnd 26 = .ok (.iload_n 3, 1) := by decide +kernel
theorem d_Rd_nameEnd_27 : decode b_Rd_nameEnd 27 = .ok (.caload, 1) := by decide +kernel
theorem d_Rd_nameEnd_28 : decode b_Rd_nameEnd 28 = .ok (.invokestatic 135, 3) := by decide +kernel
theorem d_Rd_nameEnd_31 : decode b_Rd_nameEnd 31 = .ok (.ifCond .ne 12, 3) := by decide +kernel
theorem d_Rd_nameEnd_34 : decode b_Rd_nameEnd 34 = .ok (.aload_n 0, 1) := by decide +kernel
theorem d_Rd_nameEnd_35 : decode b_Rd_nameEnd 35 = .ok (.iload_n 3, 1) := by decide +kernel
theorem d_Rd_nameEnd_36 : decode b_Rd_nameEnd 36 = .ok (.caload, 1) := by decide +kernel
theorem d_Rd_nameEnd_37 : decode b_Rd_nameEnd 37 = .ok (.invokestatic 207, 3) := by decide +kernel
theorem d_Rd_nameEnd_40 : decode b_Rd_nameEnd 40 = .ok (.ifCond .eq 9, 3) := by decide +kernel
theorem d_Rd_nameEnd_43 : decode b_Rd_nameEnd 43 = .ok (.iinc 3 1, 3) := by decide +kernel
theorem d_Rd_nameEnd_46 : decode b_Rd_nameEnd 46 = .ok (.goto (-26), 3) := by decide +kernel
theorem d_Rd_nameEnd_49 : decode b_Rd_nameEnd 49 = .ok (.iload_n 3, 1) := by decide +kernel
theorem d_Rd_nameEnd_50 : decode b_Rd_nameEnd 50 = .ok (.ireturn, 1) := by decide +kernel
theorem q_Rd_nameEnd : aw_q1 y_Rd_nameEnd b_Rd_nameEnd 4 (some .int) 3 := ⟨k_563, k_63, ⟨by decide, by decide, by decide +kernel⟩, by decide⟩
def y_Rd_isName : MethodName := ⟨"RescanDesk", "isName", "([CII)Z"⟩
abbrev b_Rd_isName : ByteArray := prog_1_method_18_code
theorem d_Rd_isName_0 : decode b_Rd_isName 0 = .ok (.iload_n 1, 1) := by decide +kernel
theorem d_Rd_isName_1 : decode b_Rd_isName 1 = .ok (.iload_n 2, 1) := by decide +kernel
theorem d_Rd_isName_2 : decode b_Rd_isName 2 = .ok (.if_icmp .ge 17, 3) := by decide +kernel
theorem d_Rd_isName_5 : decode b_Rd_isName 5 = .ok (.aload_n 0, 1) := by decide +kernel
theorem d_Rd_isName_6 : decode b_Rd_isName 6 = .ok (.iload_n 1, 1) := by decide +kernel
theorem d_Rd_isName_7 : decode b_Rd_isName 7 = .ok (.iload_n 2, 1) := by decide +kernel
theorem d_Rd_isName_8 : decode b_Rd_isName 8 = .ok (.invokestatic 159, 3) := by decide +kernel
theorem d_Rd_isName_11 : decode b_Rd_isName 11 = .ok (.iload_n 2, 1) := by decide +kernel
theorem d_Rd_isName_12 : decode b_Rd_isName 12 = .ok (.if_icmp .ne 7, 3) := by decide +kernel
theorem d_Rd_isName_15 : decode b_Rd_isName 15 = .ok (.iconst 1, 1) := by decide +kernel
theorem d_Rd_isName_16 : decode b_Rd_isName 16 = .ok (.goto 4, 3) := by decide +kernel
theorem d_Rd_isName_19 : decode b_Rd_isName 19 = .ok (.iconst 0, 1) := by decide +kernel
theorem d_Rd_isName_20 : decode b_Rd_isName 20 = .ok (.ireturn, 1) := by decide +kernel
theorem q_Rd_isName : aw_q1 y_Rd_isName b_Rd_isName 3 (some .boolean) 3 := ⟨k_666, k_63, ⟨by decide, by decide, by decide +kernel⟩, by decide⟩
def y_Rd_valueOf : MethodName := ⟨"RescanDesk", "valueOf", "([CII)J"⟩
abbrev b_Rd_valueOf : ByteArray := prog_1_method_19_code
theorem d_Rd_valueOf_0 : decode b_Rd_valueOf 0 = .ok (.iload_n 1, 1) := by decide +kernel
theorem d_Rd_valueOf_1 : decode b_Rd_valueOf 1 = .ok (.iload_n 2, 1) := by decide +kernel
theorem d_Rd_valueOf_2 : decode b_Rd_valueOf 2 = .ok (.if_icmp .ge 15, 3) := by decide +kernel
theorem d_Rd_valueOf_5 : decode b_Rd_valueOf 5 = .ok (.aload_n 0, 1) := by decide +kernel
theorem d_Rd_valueOf_6 : decode b_Rd_valueOf 6 = .ok (.iload_n 1, 1) := by decide +kernel
theorem d_Rd_valueOf_7 : decode b_Rd_valueOf 7 = .ok (.caload, 1) := by decide +kernel
theorem d_Rd_valueOf_8 : decode b_Rd_valueOf 8 = .ok (.bipush 45, 2) := by decide +kernel
theorem d_Rd_valueOf_10 : decode b_Rd_valueOf 10 = .ok (.if_icmp .ne 7, 3) := by decide +kernel
theorem d_Rd_valueOf_13 : decode b_Rd_valueOf 13 = .ok (.iconst 1, 1) := by decide +kernel
theorem d_Rd_valueOf_14 : decode b_Rd_valueOf 14 = .ok (.goto 4, 3) := by decide +kernel
theorem d_Rd_valueOf_17 : decode b_Rd_valueOf 17 = .ok (.iconst 0, 1) := by decide +kernel
theorem d_Rd_valueOf_18 : decode b_Rd_valueOf 18 = .ok (.istore_n 3, 1) := by decide +kernel
theorem d_Rd_valueOf_19 : decode b_Rd_valueOf 19 = .ok (.iload_n 3, 1) := by decide +kernel
theorem d_Rd_valueOf_20 : decode b_Rd_valueOf 20 = .ok (.ifCond .eq 9, 3) := by decide +kernel
theorem d_Rd_valueOf_23 : decode b_Rd_valueOf 23 = .ok (.iload_n 1, 1) := by decide +kernel
theorem d_Rd_valueOf_24 : decode b_Rd_valueOf 24 = .ok (.iconst 1, 1) := by decide +kernel
theorem d_Rd_valueOf_25 : decode b_Rd_valueOf 25 = .ok (.iadd, 1) := by decide +kernel
theorem d_Rd_valueOf_26 : decode b_Rd_valueOf 26 = .ok (.goto 4, 3) := by decide +kernel
theorem d_Rd_valueOf_29 : decode b_Rd_valueOf 29 = .ok (.iload_n 1, 1) := by decide +kernel
theorem d_Rd_valueOf_30 : decode b_Rd_valueOf 30 = .ok (.istore 4, 2) := by decide +kernel
theorem d_Rd_valueOf_32 : decode b_Rd_valueOf 32 = .ok (.lconst 0, 1) := by decide +kernel
theorem d_Rd_valueOf_33 : decode b_Rd_valueOf 33 = .ok (.lstore 5, 2) := by decide +kernel
theorem d_Rd_valueOf_35 : decode b_Rd_valueOf 35 = .ok (.iload 4, 2) := by decide +kernel
theorem d_Rd_valueOf_37 : decode b_Rd_valueOf 37 = .ok (.istore 7, 2) := by decide +kernel
theorem d_Rd_valueOf_39 : decode b_Rd_valueOf 39 = .ok (.iload 7, 2) := by decide +kernel
theorem d_Rd_valueOf_41 : decode b_Rd_valueOf 41 = .ok (.iload_n 2, 1) := by decide +kernel
theorem d_Rd_valueOf_42 : decode b_Rd_valueOf 42 = .ok (.if_icmp .ge 38, 3) := by decide +kernel
theorem d_Rd_valueOf_45 : decode b_Rd_valueOf 45 = .ok (.aload_n 0, 1) := by decide +kernel
theorem d_Rd_valueOf_46 : decode b_Rd_valueOf 46 = .ok (.iload 7, 2) := by decide +kernel
theorem d_Rd_valueOf_48 : decode b_Rd_valueOf 48 = .ok (.caload, 1) := by decide +kernel
theorem d_Rd_valueOf_49 : decode b_Rd_valueOf 49 = .ok (.invokestatic 207, 3) := by decide +kernel
theorem d_Rd_valueOf_52 : decode b_Rd_valueOf 52 = .ok (.ifCond .ne 5, 3) := by decide +kernel
theorem d_Rd_valueOf_55 : decode b_Rd_valueOf 55 = .ok (.lconst 0, 1) := by decide +kernel
theorem d_Rd_valueOf_56 : decode b_Rd_valueOf 56 = .ok (.lreturn, 1) := by decide +kernel
theorem d_Rd_valueOf_57 : decode b_Rd_valueOf 57 = .ok (.lload 5, 2) := by decide +kernel
theorem d_Rd_valueOf_59 : decode b_Rd_valueOf 59 = .ok (.ldc2_w 210, 3) := by decide +kernel
theorem d_Rd_valueOf_62 : decode b_Rd_valueOf 62 = .ok (.lmul, 1) := by decide +kernel
theorem d_Rd_valueOf_63 : decode b_Rd_valueOf 63 = .ok (.aload_n 0, 1) := by decide +kernel
theorem d_Rd_valueOf_64 : decode b_Rd_valueOf 64 = .ok (.iload 7, 2) := by decide +kernel
theorem d_Rd_valueOf_66 : decode b_Rd_valueOf 66 = .ok (.caload, 1) := by decide +kernel
theorem d_Rd_valueOf_67 : decode b_Rd_valueOf 67 = .ok (.bipush 48, 2) := by decide +kernel
theorem d_Rd_valueOf_69 : decode b_Rd_valueOf 69 = .ok (.isub, 1) := by decide +kernel
theorem d_Rd_valueOf_70 : decode b_Rd_valueOf 70 = .ok (.i2l, 1) := by decide +kernel
theorem d_Rd_valueOf_71 : decode b_Rd_valueOf 71 = .ok (.ladd, 1) := by decide +kernel
theorem d_Rd_valueOf_72 : decode b_Rd_valueOf 72 = .ok (.lstore 5, 2) := by decide +kernel
theorem d_Rd_valueOf_74 : decode b_Rd_valueOf 74 = .ok (.iinc 7 1, 3) := by decide +kernel
theorem d_Rd_valueOf_77 : decode b_Rd_valueOf 77 = .ok (.goto (-38), 3) := by decide +kernel
theorem d_Rd_valueOf_80 : decode b_Rd_valueOf 80 = .ok (.iload_n 3, 1) := by decide +kernel
theorem d_Rd_valueOf_81 : decode b_Rd_valueOf 81 = .ok (.ifCond .eq 9, 3) := by decide +kernel
theorem d_Rd_valueOf_84 : decode b_Rd_valueOf 84 = .ok (.lload 5, 2) := by decide +kernel
theorem d_Rd_valueOf_86 : decode b_Rd_valueOf 86 = .ok (.lneg, 1) := by decide +kernel
theorem d_Rd_valueOf_87 : decode b_Rd_valueOf 87 = .ok (.goto 5, 3) := by decide +kernel
theorem d_Rd_valueOf_90 : decode b_Rd_valueOf 90 = .ok (.lload 5, 2) := by decide +kernel
theorem d_Rd_valueOf_92 : decode b_Rd_valueOf 92 = .ok (.lreturn, 1) := by decide +kernel
theorem q_Rd_valueOf : aw_q1 y_Rd_valueOf b_Rd_valueOf 8 (some .long) 3 := ⟨k_705, k_63, ⟨by decide, by decide, by decide +kernel⟩, by decide⟩
def y_Fr_init : MethodName := ⟨"RescanDesk$Front", "<init>", "()V"⟩
abbrev b_Fr_init : ByteArray := prog_9_method_1_code
theorem d_Fr_init_0 : decode b_Fr_init 0 = .ok (.aload_n 0, 1) := by decide +kernel
theorem d_Fr_init_1 : decode b_Fr_init 1 = .ok (.invokespecial 3, 3) := by decide +kernel
theorem d_Fr_init_4 : decode b_Fr_init 4 = .ok (.aload_n 0, 1) := by decide +kernel
theorem d_Fr_init_5 : decode b_Fr_init 5 = .ok (.sipush 600, 3) := by decide +kernel
theorem d_Fr_init_8 : decode b_Fr_init 8 = .ok (.newarray .char, 2) := by decide +kernel
theorem d_Fr_init_10 : decode b_Fr_init 10 = .ok (.putfield 9, 3) := by decide +kernel
theorem d_Fr_init_13 : decode b_Fr_init 13 = .ok (.aload_n 0, 1) := by decide +kernel
theorem d_Fr_init_14 : decode b_Fr_init 14 = .ok (.sipush 600, 3) := by decide +kernel
theorem d_Fr_init_17 : decode b_Fr_init 17 = .ok (.putfield 15, 3) := by decide +kernel
theorem d_Fr_init_20 : decode b_Fr_init 20 = .ok (.return_, 1) := by decide +kernel
theorem q_Fr_init : aw_q1 y_Fr_init b_Fr_init 1 none 0 := ⟨k_130, k_65, ⟨by decide, by decide, by decide +kernel⟩, by decide⟩
def y_Fr_length : MethodName := ⟨"RescanDesk$Front", "length", "()I"⟩
abbrev b_Fr_length : ByteArray := prog_9_method_2_code
theorem d_Fr_length_0 : decode b_Fr_length 0 = .ok (.sipush 600, 3) := by decide +kernel
theorem d_Fr_length_3 : decode b_Fr_length 3 = .ok (.aload_n 0, 1) := by decide +kernel
theorem d_Fr_length_4 : decode b_Fr_length 4 = .ok (.getfield 15, 3) := by decide +kernel
theorem d_Fr_length_7 : decode b_Fr_length 7 = .ok (.isub, 1) := by decide +kernel
theorem d_Fr_length_8 : decode b_Fr_length 8 = .ok (.ireturn, 1) := by decide +kernel
theorem q_Fr_length : aw_q1 y_Fr_length b_Fr_length 1 (some .int) 0 := ⟨k_426, k_65, ⟨by decide, by decide, by decide +kernel⟩, by decide⟩
def y_Fr_load : MethodName := ⟨"RescanDesk$Front", "load", "(LRescanDesk$Text;)V"⟩
abbrev b_Fr_load : ByteArray := prog_9_method_3_code
theorem d_Fr_load_0 : decode b_Fr_load 0 = .ok (.aload_n 0, 1) := by decide +kernel
theorem d_Fr_load_1 : decode b_Fr_load 1 = .ok (.sipush 600, 3) := by decide +kernel
theorem d_Fr_load_4 : decode b_Fr_load 4 = .ok (.putfield 15, 3) := by decide +kernel
theorem d_Fr_load_7 : decode b_Fr_load 7 = .ok (.aload_n 0, 1) := by decide +kernel
theorem d_Fr_load_8 : decode b_Fr_load 8 = .ok (.aload_n 1, 1) := by decide +kernel
theorem d_Fr_load_9 : decode b_Fr_load 9 = .ok (.invokevirtual 19, 3) := by decide +kernel
theorem d_Fr_load_12 : decode b_Fr_load 12 = .ok (.pop, 1) := by decide +kernel
theorem d_Fr_load_13 : decode b_Fr_load 13 = .ok (.return_, 1) := by decide +kernel
theorem q_Fr_load : aw_q1 y_Fr_load b_Fr_load 2 none 1 := ⟨k_504, k_65, ⟨by decide, by decide, by decide +kernel⟩, by decide⟩
def y_Fr_putBefore : MethodName := ⟨"RescanDesk$Front", "putBefore", "(LRescanDesk$Text;)Z"⟩
abbrev b_Fr_putBefore : ByteArray := prog_9_method_4_code
theorem d_Fr_putBefore_0 : decode b_Fr_putBefore 0 = .ok (.aload_n 1, 1) := by decide +kernel
theorem d_Fr_putBefore_1 : decode b_Fr_putBefore 1 = .ok (.getfield 23, 3) := by decide +kernel
theorem d_Fr_putBefore_4 : decode b_Fr_putBefore 4 = .ok (.aload_n 0, 1) := by decide +kernel
theorem d_Fr_putBefore_5 : decode b_Fr_putBefore 5 = .ok (.getfield 15, 3) := by decide +kernel
theorem d_Fr_putBefore_8 : decode b_Fr_putBefore 8 = .ok (.if_icmp .le 5, 3) := by decide +kernel
theorem d_Fr_putBefore_11 : decode b_Fr_putBefore 11 = .ok (.iconst 0, 1) := by decide +kernel
theorem d_Fr_putBefore_12 : decode b_Fr_putBefore 12 = .ok (.ireturn, 1) := by decide +kernel
theorem d_Fr_putBefore_13 : decode b_Fr_putBefore 13 = .ok (.aload_n 0, 1) := by decide +kernel
theorem d_Fr_putBefore_14 : decode b_Fr_putBefore 14 = .ok (.dup, 1) := by decide +kernel
theorem d_Fr_putBefore_15 : decode b_Fr_putBefore 15 = .ok (.getfield 15, 3) := by decide +kernel
theorem d_Fr_putBefore_18 : decode b_Fr_putBefore 18 = .ok (.aload_n 1, 1) := by decide +kernel
theorem d_Fr_putBefore_19 : decode b_Fr_putBefore 19 = .ok (.getfield 23, 3) := by decide +kernel
theorem d_Fr_putBefore_22 : decode b_Fr_putBefore 22 = .ok (.isub, 1) := by decide +kernel
theorem d_Fr_putBefore_23 : decode b_Fr_putBefore 23 = .ok (.putfield 15, 3) := by decide +kernel
theorem d_Fr_putBefore_26 : decode b_Fr_putBefore 26 = .ok (.aload_n 1, 1) := by decide +kernel
theorem d_Fr_putBefore_27 : decode b_Fr_putBefore 27 = .ok (.getfield 28, 3) := by decide +kernel
theorem d_Fr_putBefore_30 : decode b_Fr_putBefore 30 = .ok (.iconst 0, 1) := by decide +kernel
theorem d_Fr_putBefore_31 : decode b_Fr_putBefore 31 = .ok (.aload_n 0, 1) := by decide +kernel
theorem d_Fr_putBefore_32 : decode b_Fr_putBefore 32 = .ok (.getfield 9, 3) := by decide +kernel
theorem d_Fr_putBefore_35 : decode b_Fr_putBefore 35 = .ok (.aload_n 0, 1) := by decide +kernel
theorem d_Fr_putBefore_36 : decode b_Fr_putBefore 36 = .ok (.getfield 15, 3) := by decide +kernel
theorem d_Fr_putBefore_39 : decode b_Fr_putBefore 39 = .ok (.aload_n 1, 1) := by decide +kernel
theorem d_Fr_putBefore_40 : decode b_Fr_putBefore 40 = .ok (.getfield 23, 3) := by decide +kernel
theorem d_Fr_putBefore_43 : decode b_Fr_putBefore 43 = .ok (.invokestatic 29, 3) := by decide +kernel
theorem d_Fr_putBefore_46 : decode b_Fr_putBefore 46 = .ok (.iconst 1, 1) := by decide +kernel
theorem d_Fr_putBefore_47 : decode b_Fr_putBefore 47 = .ok (.ireturn, 1) := by decide +kernel
theorem q_Fr_putBefore : aw_q1 y_Fr_putBefore b_Fr_putBefore 2 (some .boolean) 1 := ⟨k_508, k_65, ⟨by decide, by decide, by decide +kernel⟩, by decide⟩
def y_Fr_closingQuote : MethodName := ⟨"RescanDesk$Front", "closingQuote", "()I"⟩
abbrev b_Fr_closingQuote : ByteArray := prog_9_method_5_code
theorem d_Fr_closingQuote_0 : decode b_Fr_closingQuote 0 = .ok (.iconst 0, 1) := by decide +kernel
theorem d_Fr_closingQuote_1 : decode b_Fr_closingQuote 1 = .ok (.istore_n 1, 1) := by decide +kernel
theorem d_Fr_closingQuote_2 : decode b_Fr_closingQuote 2 = .ok (.aload_n 0, 1) := by decide +kernel
theorem d_Fr_closingQuote_3 : decode b_Fr_closingQuote 3 = .ok (.getfield 15, 3) := by decide +kernel
theorem d_Fr_closingQuote_6 : decode b_Fr_closingQuote 6 = .ok (.istore_n 2, 1) := by decide +kernel
theorem d_Fr_closingQuote_7 : decode b_Fr_closingQuote 7 = .ok (.iload_n 2, 1) := by decide +kernel
theorem d_Fr_closingQuote_8 : decode b_Fr_closingQuote 8 = .ok (.sipush 600, 3) := by decide +kernel
theorem d_Fr_closingQuote_11 : decode b_Fr_closingQuote 11 = .ok (.if_icmp .ge 46, 3) := by decide +kernel
theorem d_Fr_closingQuote_14 : decode b_Fr_closingQuote 14 = .ok (.aload_n 0, 1) := by decide +kernel
theorem d_Fr_closingQuote_15 : decode b_Fr_closingQuote 15 = .ok (.getfield 9, 3) := by decide +kernel
theorem d_Fr_closingQuote_18 : decode b_Fr_closingQuote 18 = .ok (.iload_n 2, 1) := by decide +kernel
theorem d_Fr_closingQuote_19 : decode b_Fr_closingQuote 19 = .ok (.caload, 1) := by decide +kernel
theorem d_Fr_closingQuote_20 : decode b_Fr_closingQuote 20 = .ok (.bipush 96, 2) := by decide +kernel
theorem d_Fr_closingQuote_22 : decode b_Fr_closingQuote 22 = .ok (.if_icmp .ne 9, 3) := by decide +kernel
theorem d_Fr_closingQuote_25 : decode b_Fr_closingQuote 25 = .ok (.iinc 1 1, 3) := by decide +kernel
theorem d_Fr_closingQuote_28 : decode b_Fr_closingQuote 28 = .ok (.goto 23, 3) := by decide +kernel
theorem d_Fr_closingQuote_31 : decode b_Fr_closingQuote 31 = .ok (.aload_n 0, 1) := by decide +kernel
theorem d_Fr_closingQuote_32 : decode b_Fr_closingQuote 32 = .ok (.getfield 9, 3) := by decide +kernel
theorem d_Fr_closingQuote_35 : decode b_Fr_closingQuote 35 = .ok (.iload_n 2, 1) := by decide +kernel
theorem d_Fr_closingQuote_36 : decode b_Fr_closingQuote 36 = .ok (.caload, 1) := by decide +kernel
theorem d_Fr_closingQuote_37 : decode b_Fr_closingQuote 37 = .ok (.bipush 39, 2) := by decide +kernel
theorem d_Fr_closingQuote_39 : decode b_Fr_closingQuote 39 = .ok (.if_icmp .ne 12, 3) := by decide +kernel
theorem d_Fr_closingQuote_42 : decode b_Fr_closingQuote 42 = .ok (.iinc 1 (-1), 3) := by decide +kernel
theorem d_Fr_closingQuote_45 : decode b_Fr_closingQuote 45 = .ok (.iload_n 1, 1) := by decide +kernel
theorem d_Fr_closingQuote_46 : decode b_Fr_closingQuote 46 = .ok (.ifCond .ne 5, 3) := by decide +kernel
theorem d_Fr_closingQuote_49 : decode b_Fr_closingQuote 49 = .ok (.iload_n 2, 1) := by decide +kernel
theorem d_Fr_closingQuote_50 : decode b_Fr_closingQuote 50 = .ok (.ireturn, 1) := by decide +kernel
theorem d_Fr_closingQuote_51 : decode b_Fr_closingQuote 51 = .ok (.iinc 2 1, 3) := by decide +kernel
theorem d_Fr_closingQuote_54 : decode b_Fr_closingQuote 54 = .ok (.goto (-47), 3) := by decide +kernel
theorem d_Fr_closingQuote_57 : decode b_Fr_closingQuote 57 = .ok (.iconst (-1), 1) := by decide +kernel
theorem d_Fr_closingQuote_58 : decode b_Fr_closingQuote 58 = .ok (.ireturn, 1) := by decide +kernel
theorem q_Fr_closingQuote : aw_q1 y_Fr_closingQuote b_Fr_closingQuote 3 (some .int) 0 := ⟨k_533, k_65, ⟨by decide, by decide, by decide +kernel⟩, by decide⟩
def y_Fr_takeLine : MethodName := ⟨"RescanDesk$Front", "takeLine", "()V"⟩
abbrev b_Fr_takeLine : ByteArray := prog_9_method_6_code
theorem d_Fr_takeLine_0 : decode b_Fr_takeLine 0 = .ok (.aload_n 0, 1) := by decide +kernel
theorem d_Fr_takeLine_1 : decode b_Fr_takeLine 1 = .ok (.getfield 15, 3) := by decide +kernel
theorem d_Fr_takeLine_4 : decode b_Fr_takeLine 4 = .ok (.sipush 600, 3) := by decide +kernel
theorem d_Fr_takeLine_7 : decode b_Fr_takeLine 7 = .ok (.if_icmp .ge 30, 3) := by decide +kernel
theorem d_Fr_takeLine_10 : decode b_Fr_takeLine 10 = .ok (.aload_n 0, 1) := by decide +kernel
theorem d_Fr_takeLine_11 : decode b_Fr_takeLine 11 = .ok (.getfield 9, 3) := by decide +kernel
theorem d_Fr_takeLine_14 : decode b_Fr_takeLine 14 = .ok (.aload_n 0, 1) := by decide +kernel
theorem d_Fr_takeLine_15 : decode b_Fr_takeLine 15 = .ok (.getfield 15, 3) := by decide +kernel
theorem d_Fr_takeLine_18 : decode b_Fr_takeLine 18 = .ok (.caload, 1) := by decide +kernel
theorem d_Fr_takeLine_19 : decode b_Fr_takeLine 19 = .ok (.bipush 10, 2) := by decide +kernel
theorem d_Fr_takeLine_21 : decode b_Fr_takeLine 21 = .ok (.if_icmp .eq 16, 3) := by decide +kernel
theorem d_Fr_takeLine_24 : decode b_Fr_takeLine 24 = .ok (.aload_n 0, 1) := by decide +kernel
theorem d_Fr_takeLine_25 : decode b_Fr_takeLine 25 = .ok (.dup, 1) := by decide +kernel
theorem d_Fr_takeLine_26 : decode b_Fr_takeLine 26 = .ok (.getfield 15, 3) := by decide +kernel
theorem d_Fr_takeLine_29 : decode b_Fr_takeLine 29 = .ok (.iconst 1, 1) := by decide +kernel
theorem d_Fr_takeLine_30 : decode b_Fr_takeLine 30 = .ok (.iadd, 1) := by decide +kernel
theorem d_Fr_takeLine_31 : decode b_Fr_takeLine 31 = .ok (.putfield 15, 3) := by decide +kernel
theorem d_Fr_takeLine_34 : decode b_Fr_takeLine 34 = .ok (.goto (-34), 3) := by decide +kernel
theorem d_Fr_takeLine_37 : decode b_Fr_takeLine 37 = .ok (.aload_n 0, 1) := by decide +kernel
theorem d_Fr_takeLine_38 : decode b_Fr_takeLine 38 = .ok (.getfield 15, 3) := by decide +kernel
theorem d_Fr_takeLine_41 : decode b_Fr_takeLine 41 = .ok (.sipush 600, 3) := by decide +kernel
theorem d_Fr_takeLine_44 : decode b_Fr_takeLine 44 = .ok (.if_icmp .ge 13, 3) := by decide +kernel
theorem d_Fr_takeLine_47 : decode b_Fr_takeLine 47 = .ok (.aload_n 0, 1) := by decide +kernel
theorem d_Fr_takeLine_48 : decode b_Fr_takeLine 48 = .ok (.dup, 1) := by decide +kernel
theorem d_Fr_takeLine_49 : decode b_Fr_takeLine 49 = .ok (.getfield 15, 3) := by decide +kernel
theorem d_Fr_takeLine_52 : decode b_Fr_takeLine 52 = .ok (.iconst 1, 1) := by decide +kernel
theorem d_Fr_takeLine_53 : decode b_Fr_takeLine 53 = .ok (.iadd, 1) := by decide +kernel
theorem d_Fr_takeLine_54 : decode b_Fr_takeLine 54 = .ok (.putfield 15, 3) := by decide +kernel
theorem d_Fr_takeLine_57 : decode b_Fr_takeLine 57 = .ok (.return_, 1) := by decide +kernel
theorem q_Fr_takeLine : aw_q1 y_Fr_takeLine b_Fr_takeLine 1 none 0 := ⟨k_734, k_65, ⟨by decide, by decide, by decide +kernel⟩, by decide⟩
theorem aw_up_up (w : Nat → va_E) (a : Nat) (x y : va_E) : aw_up (aw_up w a x) a y = aw_up w a y := by
  funext q
  simp only [aw_up_if]
  by_cases h : q = a
  · simp [h]
  · simp [h]
theorem aw_up_self {w : Nat → va_E} {a : Nat} {x : va_E} (h : w a = x) : aw_up w a x = w := by
  funext q
  simp only [aw_up_if]
  by_cases h2 : q = a
  · simp [h2, h]
  · simp [h2]
theorem bN_ne {p : Bool} : bN p ≠ 0 ↔ p = true := by cases p <;> simp [bN]
theorem bN_eq {p : Bool} : bN p = 0 ↔ p = false := by cases p <;> simp [bN]
theorem bN_lt (p : Bool) : bN p < 2 ^ 31 := by cases p <;> simp [bN]
theorem bN_le (p : Bool) : bN p < 2 := by cases p <;> simp [bN]
theorem sl_0 (g : Nat → Nat) (s : Nat) : sl g s 0 = [] := rfl
theorem sl_cons (g : Nat → Nat) (s n : Nat) : sl g s (n + 1) = g s :: sl g (s + 1) n := by
  apply List.ext_getElem?
  intro i
  cases i with
  | zero => simp [sl]
  | succ i =>
    by_cases h : i < n
    · rw [sl_get (by omega), List.getElem?_cons_succ, sl_get h, show s + (i + 1) = s + 1 + i by omega]
    · rw [List.getElem?_eq_none_iff.mpr (by rw [sl_len]; omega), List.getElem?_cons_succ, List.getElem?_eq_none_iff.mpr (by rw [sl_len]; omega)]
def isLet (c : Nat) : Bool := decide (97 ≤ c ∧ c ≤ 122 ∨ 65 ≤ c ∧ c ≤ 90 ∨ c = 95)
def isDig (c : Nat) : Bool := decide (48 ≤ c ∧ c ≤ 57)
def isBlk (c : Nat) : Bool := decide (c = 32 ∨ c = 10)
def isLD (c : Nat) : Bool := isLet c || isDig c
/-- how long a name the text begins with -/
def nmLen (L : List Nat) : Nat := match L with
  | [] => 0
  | c :: r => if isLet c = true then 1 + (r.takeWhile isLD).length else 0
def isNm (L : List Nat) : Bool := !L.isEmpty && decide (nmLen L = L.length)
def valD : Int64 → List Nat → Option Int64
  | a, [] => some a
  | a, c :: r => if isDig c = true then valD (a * 10 + lN (c - 48)) r else none
def valF (bl : Nat) (o : Option Int64) : Int64 := match o with
  | none => 0
  | some v => if bl = 0 then v else -v
/-- the number that a text says -/
def valL (L : List Nat) : Int64 := match L with
  | [] => 0
  | c :: r => if c = 45 then valF 1 (valD 0 r) else valF 0 (valD 0 (c :: r))
section
variable {G : aw_G} {nx d : Nat} {w : Nat → va_E}
theorem c_Rd_isLetter {c : Nat} (hc : c < 65536) : AC G y_Rd_isLetter b_Rd_isLetter 1 (some .boolean) d false [.int (nI c)] nx w 0 0 (fun r w' nx' => nx' = nx ∧ w' = w ∧ r = some (.int (nI (bN (isLet c))))) := by
  have t1 : ∀ q : Prop, (97 ≤ c ∧ c ≤ 122 ∨ 65 ≤ c ∧ c ≤ 90 ∨ c = 95) → isLet c = true := fun _ h => decide_eq_true h
  have t2 : ∀ q : Prop, ¬ (97 ≤ c ∧ c ≤ 122 ∨ 65 ≤ c ∧ c ≤ 90 ∨ c = 95) → isLet c = false := fun _ h => decide_eq_false h
  refine AC.ofW (by decide) (Nat.le_of_ble_eq_true rfl) ?_
  intro E P hP Y X
  have X : aw_X G "RescanDesk" b_Rd_isLetter 1 (some .boolean) "isLetter" _ _ _ _ _ E := X
  refine AW.eql (lv' := [(0, _)]) (by rfl) ?_
  have Lt : isLet c = true → AW G E 1 nx 0 0 w 30 [(0, .int (nI c))] [] := fun h => by
    refine aw_iconstN (pc := 30) X 1 d_Rd_isLetter_30 (by decide) ?_
    refine aw_goto (pc := 31) X (tgt := 35) d_Rd_isLetter_31 (by rfl) ?_
    refine aw_zret Y X rfl (by decide +kernel) d_Rd_isLetter_35 (by omega) (by omega) (hP _ _ _ ?_)
    -- ret 35 lv=0:n st=n
    exact ⟨rfl, rfl, by rw [h]; rfl⟩
  have Lf : isLet c = false → AW G E 1 nx 0 0 w 34 [(0, .int (nI c))] [] := fun h => by
    refine aw_iconstN (pc := 34) X 0 d_Rd_isLetter_34 (by decide) ?_
    refine aw_zret Y X rfl (by decide +kernel) d_Rd_isLetter_35 (by omega) (by omega) (hP _ _ _ ?_)
    -- ret 35 lv=0:n st=n
    exact ⟨rfl, rfl, by rw [h]; rfl⟩
  have L24 : ¬ (97 ≤ c ∧ c ≤ 122 ∨ 65 ≤ c ∧ c ≤ 90) → AW G E 1 nx 0 0 w 24 [(0, .int (nI c))] [] := fun h => by
    refine aw_iload_n (pc := 24) X d_Rd_isLetter_24 (by rfl) ?_
    refine aw_bipushN (pc := 25) X 95 d_Rd_isLetter_25 (by decide) ?_
    refine aw_icmp_neN (pc := 27) X (tgt := 34) d_Rd_isLetter_27 (by rfl) (by omega) (by omega) (fun h27 => ?_) (fun h27 => ?_)
    -- br 27 lv=0:n st=
    · exact Lf (t2 True (by omega))
    · exact Lt (t1 True (by omega))
  have L12 : ¬ (97 ≤ c ∧ c ≤ 122) → AW G E 1 nx 0 0 w 12 [(0, .int (nI c))] [] := fun h => by
    refine aw_iload_n (pc := 12) X d_Rd_isLetter_12 (by rfl) ?_
    refine aw_bipushN (pc := 13) X 65 d_Rd_isLetter_13 (by decide) ?_
    refine aw_icmp_ltN (pc := 15) X (tgt := 24) d_Rd_isLetter_15 (by rfl) (by omega) (by omega) (fun h15 => ?_) (fun h15 => ?_)
    -- br 15 lv=0:n st=
    · exact L24 (by omega)
    · refine aw_iload_n (pc := 18) X d_Rd_isLetter_18 (by rfl) ?_
      refine aw_bipushN (pc := 19) X 90 d_Rd_isLetter_19 (by decide) ?_
      refine aw_icmp_leN (pc := 21) X (tgt := 30) d_Rd_isLetter_21 (by rfl) (by omega) (by omega) (fun h21 => ?_) (fun h21 => ?_)
      -- br 21 lv=0:n st=
      · exact Lt (t1 True (by omega))
      · exact L24 (by omega)
  refine aw_iload_n (pc := 0) X d_Rd_isLetter_0 (by rfl) ?_
  refine aw_bipushN (pc := 1) X 97 d_Rd_isLetter_1 (by decide) ?_
  refine aw_icmp_ltN (pc := 3) X (tgt := 12) d_Rd_isLetter_3 (by rfl) (by omega) (by omega) (fun h3 => ?_) (fun h3 => ?_)
  -- br 3 lv=0:n st=
  · exact L12 (by omega)
  · refine aw_iload_n (pc := 6) X d_Rd_isLetter_6 (by rfl) ?_
    refine aw_bipushN (pc := 7) X 122 d_Rd_isLetter_7 (by decide) ?_
    refine aw_icmp_leN (pc := 9) X (tgt := 30) d_Rd_isLetter_9 (by rfl) (by omega) (by omega) (fun h9 => ?_) (fun h9 => ?_)
    -- br 9 lv=0:n st=
    · exact Lt (t1 True (by omega))
    · exact L12 (by omega)
theorem c_Rd_isDigit {c : Nat} (hc : c < 65536) : AC G y_Rd_isDigit b_Rd_isDigit 1 (some .boolean) d false [.int (nI c)] nx w 0 0 (fun r w' nx' => nx' = nx ∧ w' = w ∧ r = some (.int (nI (bN (isDig c))))) := by
  refine AC.ofW (by decide) (Nat.le_of_ble_eq_true rfl) ?_
  intro E P hP Y X
  have X : aw_X G "RescanDesk" b_Rd_isDigit 1 (some .boolean) "isDigit" _ _ _ _ _ E := X
  refine AW.eql (lv' := [(0, _)]) (by rfl) ?_
  refine aw_iload_n (pc := 0) X d_Rd_isDigit_0 (by rfl) ?_
  refine aw_bipushN (pc := 1) X 48 d_Rd_isDigit_1 (by decide) ?_
  refine aw_icmp_ltN (pc := 3) X (tgt := 16) d_Rd_isDigit_3 (by rfl) (by omega) (by omega) (fun h3 => ?_) (fun h3 => ?_)
  -- br 3 lv=0:n st=
  · refine aw_iconstN (pc := 16) X 0 d_Rd_isDigit_16 (by decide) ?_
    refine aw_zret Y X rfl (by decide +kernel) d_Rd_isDigit_17 (by omega) (by omega) (hP _ _ _ ?_)
    -- ret 17 lv=0:n st=n
    exact ⟨rfl, rfl, by rw [show isDig c = false from decide_eq_false (by omega)]; rfl⟩
  · refine aw_iload_n (pc := 6) X d_Rd_isDigit_6 (by rfl) ?_
    refine aw_bipushN (pc := 7) X 57 d_Rd_isDigit_7 (by decide) ?_
    refine aw_icmp_gtN (pc := 9) X (tgt := 16) d_Rd_isDigit_9 (by rfl) (by omega) (by omega) (fun h9 => ?_) (fun h9 => ?_)
    -- br 9 lv=0:n st=
    · refine aw_iconstN (pc := 16) X 0 d_Rd_isDigit_16 (by decide) ?_
      refine aw_zret Y X rfl (by decide +kernel) d_Rd_isDigit_17 (by omega) (by omega) (hP _ _ _ ?_)
      -- ret 17 lv=0:n st=n
      exact ⟨rfl, rfl, by rw [show isDig c = false from decide_eq_false (by omega)]; rfl⟩
    · refine aw_iconstN (pc := 12) X 1 d_Rd_isDigit_12 (by decide) ?_
      refine aw_goto (pc := 13) X (tgt := 17) d_Rd_isDigit_13 (by rfl) ?_
      refine aw_zret Y X rfl (by decide +kernel) d_Rd_isDigit_17 (by omega) (by omega) (hP _ _ _ ?_)
      -- ret 17 lv=0:n st=n
      exact ⟨rfl, rfl, by rw [show isDig c = true from decide_eq_true (by omega)]; rfl⟩
theorem c_Rd_isBlank {c : Nat} (hc : c < 65536) : AC G y_Rd_isBlank b_Rd_isBlank 1 (some .boolean) d false [.int (nI c)] nx w 0 0 (fun r w' nx' => nx' = nx ∧ w' = w ∧ r = some (.int (nI (bN (isBlk c))))) := by
  refine AC.ofW (by decide) (Nat.le_of_ble_eq_true rfl) ?_
  intro E P hP Y X
  have X : aw_X G "RescanDesk" b_Rd_isBlank 1 (some .boolean) "isBlank" _ _ _ _ _ E := X
  refine AW.eql (lv' := [(0, _)]) (by rfl) ?_
  refine aw_iload_n (pc := 0) X d_Rd_isBlank_0 (by rfl) ?_
  refine aw_bipushN (pc := 1) X 32 d_Rd_isBlank_1 (by decide) ?_
  refine aw_icmp_eqN (pc := 3) X (tgt := 12) d_Rd_isBlank_3 (by rfl) (by omega) (by omega) (fun h3 => ?_) (fun h3 => ?_)
  -- br 3 lv=0:n st=
  · refine aw_iconstN (pc := 12) X 1 d_Rd_isBlank_12 (by decide) ?_
    refine aw_goto (pc := 13) X (tgt := 17) d_Rd_isBlank_13 (by rfl) ?_
    refine aw_zret Y X rfl (by decide +kernel) d_Rd_isBlank_17 (by omega) (by omega) (hP _ _ _ ?_)
    -- ret 17 lv=0:n st=n
    exact ⟨rfl, rfl, by rw [show isBlk c = true from decide_eq_true (by omega)]; rfl⟩
  · refine aw_iload_n (pc := 6) X d_Rd_isBlank_6 (by rfl) ?_
    refine aw_bipushN (pc := 7) X 10 d_Rd_isBlank_7 (by decide) ?_
    refine aw_icmp_neN (pc := 9) X (tgt := 16) d_Rd_isBlank_9 (by rfl) (by omega) (by omega) (fun h9 => ?_) (fun h9 => ?_)
    -- br 9 lv=0:n st=
    · refine aw_iconstN (pc := 16) X 0 d_Rd_isBlank_16 (by decide) ?_
      refine aw_zret Y X rfl (by decide +kernel) d_Rd_isBlank_17 (by omega) (by omega) (hP _ _ _ ?_)
      -- ret 17 lv=0:n st=n
      exact ⟨rfl, rfl, by rw [show isBlk c = false from decide_eq_false (by omega)]; rfl⟩
    · refine aw_iconstN (pc := 12) X 1 d_Rd_isBlank_12 (by decide) ?_
      refine aw_goto (pc := 13) X (tgt := 17) d_Rd_isBlank_13 (by rfl) ?_
      refine aw_zret Y X rfl (by decide +kernel) d_Rd_isBlank_17 (by omega) (by omega) (hP _ _ _ ?_)
      -- ret 17 lv=0:n st=n
      exact ⟨rfl, rfl, by rw [show isBlk c = true from decide_eq_true (by omega)]; rfl⟩
/-- nameEnd(chars, s, t) -/
theorem c_Rd_nameEnd {q l s t : Nat} {f : Nat → Nat} (hq : q < nx) (hd : 1 ≤ d) (hl : l < 2 ^ 20) (hst : s ≤ t) (htl : t ≤ l) (hf : ∀ j, f j < 65536) (h3 : w q = aCh G l f) : AC G y_Rd_nameEnd b_Rd_nameEnd 4 (some .int) d false [rf G q, .int (nI s), .int (nI t)] nx w 0 0 (fun r w' nx' => nx' = nx ∧ w' = w ∧ r = some (.int (nI (s + nmLen (sl f s (t - s)))))) := by
  refine AC.ofW (by decide) (Nat.le_of_ble_eq_true rfl) ?_
  intro E P hP Y X
  have X : aw_X G "RescanDesk" b_Rd_nameEnd 4 (some .int) "nameEnd" _ _ _ _ _ E := X
  refine AW.eql (lv' := [(0, _), (1, _), (2, _)]) (by rfl) ?_
  have L : ∀ (k i : Nat), i + k = t → s < t → isLet (f s) = true → i + ((sl f i k).takeWhile isLD).length = s + nmLen (sl f s (t - s)) → AW G E 4 nx 0 0 w 20 [(3, .int (nI i)), (0, rf G q), (1, .int (nI s)), (2, .int (nI t))] [] := by
    intro k
    induction k with
    | zero =>
      intro i hi hs hle hr
      refine aw_iload_n (pc := 20) X d_Rd_nameEnd_20 (by rfl) ?_
      refine aw_iload_n (pc := 21) X d_Rd_nameEnd_21 (by rfl) ?_
      refine aw_icmp_geN (pc := 22) X (tgt := 49) d_Rd_nameEnd_22 (by rfl) (by omega) (by omega) (fun h22 => ?_) (fun h22 => ?_)
      -- br 22 lv=3:n,0:r,1:n,2:n st=
      · refine aw_iload_n (pc := 49) X d_Rd_nameEnd_49 (by rfl) ?_
        refine aw_iret Y X rfl d_Rd_nameEnd_50 (by omega) (by omega) (hP _ _ _ ?_)
        -- ret 50 lv=3:n,0:r,1:n,2:n st=n
        exact ⟨rfl, rfl, by rw [← hr]; rfl⟩
      · omega
    | succ k ih =>
      intro i hi hs hle hr
      have hfi := hf i
      rw [sl_cons] at hr
      refine aw_iload_n (pc := 20) X d_Rd_nameEnd_20 (by rfl) ?_
      refine aw_iload_n (pc := 21) X d_Rd_nameEnd_21 (by rfl) ?_
      refine aw_icmp_geN (pc := 22) X (tgt := 49) d_Rd_nameEnd_22 (by rfl) (by omega) (by omega) (fun h22 => ?_) (fun h22 => ?_)
      -- br 22 lv=3:n,0:r,1:n,2:n st=
      · omega
      · refine aw_aload_nR (pc := 25) X d_Rd_nameEnd_25 (by rfl) ?_
        refine aw_iload_n (pc := 26) X d_Rd_nameEnd_26 (by rfl) ?_
        refine aw_caldN (pc := 27) X _ 0 (by omega) (by (repeat (first | rw [aw_up_eq] | rw [aw_up_ne _ _ (by first | assumption | omega)])) <;> first | assumption | rfl) (by rfl) (by omega) (by omega) d_Rd_nameEnd_27 ?_
        -- invokestatic 28 lv=3:n,0:r,1:n,2:n st=n
        refine aw_callS (pc := 28) X (c_Rd_isLetter (d := 0) hfi) q_Rd_isLetter k_554 k_555 d_Rd_nameEnd_28 (by omega) (Nat.le_of_ble_eq_true rfl) ⟨by omega, by omega⟩ (fun h => by cases h) (fun r w' nx' hp => ?_)
        obtain ⟨rfl, rfl, rfl⟩ := hp
        have hb := bN_lt (isLet (f i))
        refine aw_if_neN (pc := 31) X (tgt := 43) d_Rd_nameEnd_31 (by rfl) (by omega) (fun h31 => ?_) (fun h31 => ?_)
        -- br 31 lv=3:n,0:r,1:n,2:n st=
        · have hL : isLD (f i) = true := by simp [isLD, bN_ne.mp h31]
          rw [List.takeWhile_cons_of_pos hL, List.length_cons] at hr
          refine aw_iincN (pc := 43) X 1 (lv' := [(3, _), (0, _), (1, _), (2, _)]) d_Rd_nameEnd_43 (by rfl) (by decide) (by decide) (by rfl) ?_
          refine aw_goto (pc := 46) X (tgt := 20) d_Rd_nameEnd_46 (by rfl) ?_
          -- stop 20 lv=3:n,0:r,1:n,2:n st=
          exact ih (i + 1) (by omega) hs hle (by omega)
        · refine aw_aload_nR (pc := 34) X d_Rd_nameEnd_34 (by rfl) ?_
          refine aw_iload_n (pc := 35) X d_Rd_nameEnd_35 (by rfl) ?_
          refine aw_caldN (pc := 36) X _ 0 (by omega) (by (repeat (first | rw [aw_up_eq] | rw [aw_up_ne _ _ (by first | assumption | omega)])) <;> first | assumption | rfl) (by rfl) (by omega) (by omega) d_Rd_nameEnd_36 ?_
          -- invokestatic 37 lv=3:n,0:r,1:n,2:n st=n
          refine aw_callS (pc := 37) X (c_Rd_isDigit (d := 0) hfi) q_Rd_isDigit k_564 k_565 d_Rd_nameEnd_37 (by omega) (Nat.le_of_ble_eq_true rfl) ⟨by omega, by omega⟩ (fun h => by cases h) (fun r w' nx' hp => ?_)
          obtain ⟨rfl, rfl, rfl⟩ := hp
          have hb := bN_lt (isDig (f i))
          refine aw_if_eqN (pc := 40) X (tgt := 49) d_Rd_nameEnd_40 (by rfl) (by omega) (fun h40 => ?_) (fun h40 => ?_)
          -- br 40 lv=3:n,0:r,1:n,2:n st=
          · have hL : ¬ isLD (f i) = true := by simp [isLD, bN_eq.mp h31, bN_eq.mp h40]
            rw [List.takeWhile_cons_of_neg hL] at hr
            refine aw_iload_n (pc := 49) X d_Rd_nameEnd_49 (by rfl) ?_
            refine aw_iret Y X rfl d_Rd_nameEnd_50 (by omega) (by omega) (hP _ _ _ ?_)
            -- ret 50 lv=3:n,0:r,1:n,2:n st=n
            exact ⟨rfl, rfl, by rw [← hr]; rfl⟩
          · have hL : isLD (f i) = true := by simp [isLD, bN_ne.mp h40]
            rw [List.takeWhile_cons_of_pos hL, List.length_cons] at hr
            refine aw_iincN (pc := 43) X 1 (lv' := [(3, _), (0, _), (1, _), (2, _)]) d_Rd_nameEnd_43 (by rfl) (by decide) (by decide) (by rfl) ?_
            refine aw_goto (pc := 46) X (tgt := 20) d_Rd_nameEnd_46 (by rfl) ?_
            -- stop 20 lv=3:n,0:r,1:n,2:n st=
            exact ih (i + 1) (by omega) hs hle (by omega)
  refine aw_iload_n (pc := 0) X d_Rd_nameEnd_0 (by rfl) ?_
  refine aw_iload_n (pc := 1) X d_Rd_nameEnd_1 (by rfl) ?_
  refine aw_icmp_geN (pc := 2) X (tgt := 14) d_Rd_nameEnd_2 (by rfl) (by omega) (by omega) (fun h2 => ?_) (fun h2 => ?_)
  -- br 2 lv=0:r,1:n,2:n st=
  · refine aw_iload_n (pc := 14) X d_Rd_nameEnd_14 (by rfl) ?_
    refine aw_iret Y X rfl d_Rd_nameEnd_15 (by omega) (by omega) (hP _ _ _ ?_)
    -- ret 15 lv=0:r,1:n,2:n st=n
    exact ⟨rfl, rfl, by rw [show t - s = 0 by omega]; rfl⟩
  · have hfi := hf s
    have e : sl f s (t - s) = f s :: sl f (s + 1) (t - s - 1) := by rw [← sl_cons]; congr 1; omega
    refine aw_aload_nR (pc := 5) X d_Rd_nameEnd_5 (by rfl) ?_
    refine aw_iload_n (pc := 6) X d_Rd_nameEnd_6 (by rfl) ?_
    refine aw_caldN (pc := 7) X _ 0 (by omega) (by (repeat (first | rw [aw_up_eq] | rw [aw_up_ne _ _ (by first | assumption | omega)])) <;> first | assumption | rfl) (by rfl) (by omega) (by omega) d_Rd_nameEnd_7 ?_
    -- invokestatic 8 lv=0:r,1:n,2:n st=n
    refine aw_callS (pc := 8) X (c_Rd_isLetter (d := 0) hfi) q_Rd_isLetter k_554 k_555 d_Rd_nameEnd_8 (by omega) (Nat.le_of_ble_eq_true rfl) ⟨by omega, by omega⟩ (fun h => by cases h) (fun r w' nx' hp => ?_)
    obtain ⟨rfl, rfl, rfl⟩ := hp
    have hb := bN_lt (isLet (f s))
    refine aw_if_neN (pc := 11) X (tgt := 16) d_Rd_nameEnd_11 (by rfl) (by omega) (fun h11 => ?_) (fun h11 => ?_)
    -- br 11 lv=0:r,1:n,2:n st=
    · have hL := bN_ne.mp h11
      refine aw_iload_n (pc := 16) X d_Rd_nameEnd_16 (by rfl) ?_
      refine aw_iconstN (pc := 17) X 1 d_Rd_nameEnd_17 (by decide) ?_
      refine aw_iaddN (pc := 18) X d_Rd_nameEnd_18 ?_
      refine aw_istore_n (pc := 19) X (lv' := [(3, _), (0, _), (1, _), (2, _)]) d_Rd_nameEnd_19 (by decide) (by rfl) ?_
      -- stop 20 lv=3:n,0:r,1:n,2:n st=
      exact L (t - s - 1) (s + 1) (by omega) (by omega) hL (by rw [e]; simp [nmLen, hL]; omega)
    · have hL := bN_eq.mp h11
      refine aw_iload_n (pc := 14) X d_Rd_nameEnd_14 (by rfl) ?_
      refine aw_iret Y X rfl d_Rd_nameEnd_15 (by omega) (by omega) (hP _ _ _ ?_)
      -- ret 15 lv=0:r,1:n,2:n st=n
      exact ⟨rfl, rfl, by rw [e]; simp [nmLen, hL]⟩
/-- isName(chars, s, t) -/
theorem c_Rd_isName {q l s t : Nat} {f : Nat → Nat} (hq : q < nx) (hd : 2 ≤ d) (hl : l < 2 ^ 20) (hst : s ≤ t) (htl : t ≤ l) (hf : ∀ j, f j < 65536) (h3 : w q = aCh G l f) : AC G y_Rd_isName b_Rd_isName 3 (some .boolean) d false [rf G q, .int (nI s), .int (nI t)] nx w 0 0 (fun r w' nx' => nx' = nx ∧ w' = w ∧ r = some (.int (nI (bN (isNm (sl f s (t - s))))))) := by
  have hnl : nmLen (sl f s (t - s)) ≤ t - s := by
    unfold nmLen
    cases hs : sl f s (t - s) with
    | nil => simp
    | cons c r =>
      have h1 := sl_len f s (t - s)
      rw [hs] at h1
      simp only
      split
      · have := List.takeWhile_prefix (l := r) isLD
        have := this.length_le
        simp at h1
        omega
      · omega
  refine AC.ofW (by decide) (Nat.le_of_ble_eq_true rfl) ?_
  intro E P hP Y X
  have X : aw_X G "RescanDesk" b_Rd_isName 3 (some .boolean) "isName" _ _ _ _ _ E := X
  refine AW.eql (lv' := [(0, _), (1, _), (2, _)]) (by rfl) ?_
  refine aw_iload_n (pc := 0) X d_Rd_isName_0 (by rfl) ?_
  refine aw_iload_n (pc := 1) X d_Rd_isName_1 (by rfl) ?_
  refine aw_icmp_geN (pc := 2) X (tgt := 19) d_Rd_isName_2 (by rfl) (by omega) (by omega) (fun h2 => ?_) (fun h2 => ?_)
  -- br 2 lv=0:r,1:n,2:n st=
  · refine aw_iconstN (pc := 19) X 0 d_Rd_isName_19 (by decide) ?_
    refine aw_zret Y X rfl (by decide +kernel) d_Rd_isName_20 (by omega) (by omega) (hP _ _ _ ?_)
    -- ret 20 lv=0:r,1:n,2:n st=n
    exact ⟨rfl, rfl, by rw [show t - s = 0 by omega]; rfl⟩
  · refine aw_aload_nR (pc := 5) X d_Rd_isName_5 (by rfl) ?_
    refine aw_iload_n (pc := 6) X d_Rd_isName_6 (by rfl) ?_
    refine aw_iload_n (pc := 7) X d_Rd_isName_7 (by rfl) ?_
    -- invokestatic 8 lv=0:r,1:n,2:n st=n,n,r
    refine aw_callS (pc := 8) X (c_Rd_nameEnd (d := 1) hq (by omega) hl hst htl hf h3) q_Rd_nameEnd k_561 k_562 d_Rd_isName_8 (by omega) (Nat.le_of_ble_eq_true rfl) ⟨by omega, by omega⟩ (fun h => by cases h) (fun r w' nx' hp => ?_)
    obtain ⟨rfl, rfl, rfl⟩ := hp
    have hne : (sl f s (t - s)).isEmpty = false := by
      cases hs : sl f s (t - s) with
      | nil => have h1 := sl_len f s (t - s); rw [hs] at h1; simp at h1; omega
      | cons c r => rfl
    refine aw_iload_n (pc := 11) X d_Rd_isName_11 (by rfl) ?_
    refine aw_icmp_neN (pc := 12) X (tgt := 19) d_Rd_isName_12 (by rfl) (by omega) (by omega) (fun h12 => ?_) (fun h12 => ?_)
    -- br 12 lv=0:r,1:n,2:n st=
    · refine aw_iconstN (pc := 19) X 0 d_Rd_isName_19 (by decide) ?_
      refine aw_zret Y X rfl (by decide +kernel) d_Rd_isName_20 (by omega) (by omega) (hP _ _ _ ?_)
      -- ret 20 lv=0:r,1:n,2:n st=n
      exact ⟨rfl, rfl, by rw [show isNm (sl f s (t - s)) = false by simp [isNm, hne, sl_len]; omega]; rfl⟩
    · refine aw_iconstN (pc := 15) X 1 d_Rd_isName_15 (by decide) ?_
      refine aw_goto (pc := 16) X (tgt := 20) d_Rd_isName_16 (by rfl) ?_
      refine aw_zret Y X rfl (by decide +kernel) d_Rd_isName_20 (by omega) (by omega) (hP _ _ _ ?_)
      -- ret 20 lv=0:r,1:n,2:n st=n
      exact ⟨rfl, rfl, by rw [show isNm (sl f s (t - s)) = true by simp [isNm, hne, sl_len]; omega]; rfl⟩
end
end
section
/-! valueOf; RescanDesk$Front -/
def oFr (G : aw_G) (c n : Nat) : va_E := aObj 2 [rf G c, .int (nI n)]
/-- where the quote that is open at depth e is closed in the text -/
def qcl : Nat → List Nat → Option Nat
  | _, [] => none
  | e, c :: r => if c = 96 then (qcl (e + 1) r).map (· + 1) else if c = 39 then (if e = 1 then some 0 else (qcl (e - 1) r).map (· + 1)) else (qcl e r).map (· + 1)
/-- how many characters a line takes, its end with it -/
def lnLen (L : List Nat) : Nat := if (L.takeWhile (fun c => decide (c ≠ 10))).length < L.length then (L.takeWhile (fun c => decide (c ≠ 10))).length + 1 else L.length
section
variable {G : aw_G} {nx d : Nat} {w : Nat → va_E}
/-- valueOf(chars, s, t) -/
theorem c_Rd_valueOf {q l s t : Nat} {f : Nat → Nat} (hq : q < nx) (hd : 1 ≤ d) (hl : l < 2 ^ 20) (hst : s ≤ t) (htl : t ≤ l) (hf : ∀ j, f j < 65536) (h3 : w q = aCh G l f) : AC G y_Rd_valueOf b_Rd_valueOf 8 (some .long) d false [rf G q, .int (nI s), .int (nI t)] nx w 0 0 (fun r w' nx' => nx' = nx ∧ w' = w ∧ r = some (.long (valL (sl f s (t - s))))) := by
  refine AC.ofW (by decide) (Nat.le_of_ble_eq_true rfl) ?_
  intro E P hP Y X
  have X : aw_X G "RescanDesk" b_Rd_valueOf 8 (some .long) "valueOf" _ _ _ _ _ E := X
  refine AW.eql (lv' := [(0, _), (1, _), (2, _)]) (by rfl) ?_
  have L : ∀ (bl fi k i : Nat) (v : Int64), bl < 2 → i + k = t → valF bl (valD v (sl f i k)) = valL (sl f s (t - s)) → AW G E 8 nx 0 0 w 39 [(7, .int (nI i)), (5, .long v), (4, .int (nI fi)), (3, .int (nI bl)), (0, rf G q), (1, .int (nI s)), (2, .int (nI t))] [] := by
    intro bl fi k
    induction k with
    | zero =>
      intro i v hbl hi hr
      rw [sl_0] at hr
      refine aw_iload (pc := 39) X d_Rd_valueOf_39 (by rfl) ?_
      refine aw_iload_n (pc := 41) X d_Rd_valueOf_41 (by rfl) ?_
      refine aw_icmp_geN (pc := 42) X (tgt := 80) d_Rd_valueOf_42 (by rfl) (by omega) (by omega) (fun h42 => ?_) (fun h42 => ?_)
      -- br 42 lv=7:n,5:l,4:n,3:n,0:r,1:n,2:n st=
      · refine aw_iload_n (pc := 80) X d_Rd_valueOf_80 (by rfl) ?_
        refine aw_if_eqN (pc := 81) X (tgt := 90) d_Rd_valueOf_81 (by rfl) (by omega) (fun h81 => ?_) (fun h81 => ?_)
        -- br 81 lv=7:n,5:l,4:n,3:n,0:r,1:n,2:n st=
        · refine aw_lload (pc := 90) X d_Rd_valueOf_90 (by rfl) ?_
          refine aw_lret Y X rfl d_Rd_valueOf_92 (by omega) (by omega) (hP _ _ _ ?_)
          -- ret 92 lv=7:n,5:l,4:n,3:n,0:r,1:n,2:n st=l
          exact ⟨rfl, rfl, by rw [← hr, h81]; rfl⟩
        · refine aw_lload (pc := 84) X d_Rd_valueOf_84 (by rfl) ?_
          refine aw_lneg (pc := 86) X d_Rd_valueOf_86 ?_
          refine aw_goto (pc := 87) X (tgt := 92) d_Rd_valueOf_87 (by rfl) ?_
          refine aw_lret Y X rfl d_Rd_valueOf_92 (by omega) (by omega) (hP _ _ _ ?_)
          -- ret 92 lv=7:n,5:l,4:n,3:n,0:r,1:n,2:n st=l
          exact ⟨rfl, rfl, by rw [← hr]; simp [valD, valF, h81]⟩
      · omega
    | succ k ih =>
      intro i v hbl hi hr
      have hfi := hf i
      rw [sl_cons] at hr
      refine aw_iload (pc := 39) X d_Rd_valueOf_39 (by rfl) ?_
      refine aw_iload_n (pc := 41) X d_Rd_valueOf_41 (by rfl) ?_
      refine aw_icmp_geN (pc := 42) X (tgt := 80) d_Rd_valueOf_42 (by rfl) (by omega) (by omega) (fun h42 => ?_) (fun h42 => ?_)
      -- br 42 lv=7:n,5:l,4:n,3:n,0:r,1:n,2:n st=
      · omega
      · refine aw_aload_nR (pc := 45) X d_Rd_valueOf_45 (by rfl) ?_
        refine aw_iload (pc := 46) X d_Rd_valueOf_46 (by rfl) ?_
        refine aw_caldN (pc := 48) X _ 0 (by omega) (by (repeat (first | rw [aw_up_eq] | rw [aw_up_ne _ _ (by first | assumption | omega)])) <;> first | assumption | rfl) (by rfl) (by omega) (by omega) d_Rd_valueOf_48 ?_
        -- invokestatic 49 lv=7:n,5:l,4:n,3:n,0:r,1:n,2:n st=n
        refine aw_callS (pc := 49) X (c_Rd_isDigit (d := 0) hfi) q_Rd_isDigit k_564 k_565 d_Rd_valueOf_49 (by omega) (Nat.le_of_ble_eq_true rfl) ⟨by omega, by omega⟩ (fun h => by cases h) (fun r w' nx' hp => ?_)
        obtain ⟨rfl, rfl, rfl⟩ := hp
        have hb := bN_lt (isDig (f i))
        refine aw_if_neN (pc := 52) X (tgt := 57) d_Rd_valueOf_52 (by rfl) (by omega) (fun h52 => ?_) (fun h52 => ?_)
        -- br 52 lv=7:n,5:l,4:n,3:n,0:r,1:n,2:n st=
        · have hL := bN_ne.mp h52
          have hL2 := of_decide_eq_true hL
          refine aw_lload (pc := 57) X d_Rd_valueOf_57 (by rfl) ?_
          refine aw_ldc2 (pc := 59) X k_706 d_Rd_valueOf_59 ?_
          refine aw_lmul (pc := 62) X d_Rd_valueOf_62 ?_
          refine aw_aload_nR (pc := 63) X d_Rd_valueOf_63 (by rfl) ?_
          refine aw_iload (pc := 64) X d_Rd_valueOf_64 (by rfl) ?_
          refine aw_caldN (pc := 66) X _ 0 (by omega) (by (repeat (first | rw [aw_up_eq] | rw [aw_up_ne _ _ (by first | assumption | omega)])) <;> first | assumption | rfl) (by rfl) (by omega) (by omega) d_Rd_valueOf_66 ?_
          refine aw_bipushN (pc := 67) X 48 d_Rd_valueOf_67 (by decide) ?_
          refine aw_isubN (pc := 69) X d_Rd_valueOf_69 (by omega) ?_
          refine aw_i2lN (pc := 70) X d_Rd_valueOf_70 (by omega) ?_
          refine aw_ladd (pc := 71) X d_Rd_valueOf_71 ?_
          refine aw_lstore (pc := 72) X (lv' := [(5, _), (7, _), (4, _), (3, _), (0, _), (1, _), (2, _)]) d_Rd_valueOf_72 (by decide) (by rfl) ?_
          refine aw_iincN (pc := 74) X 1 (lv' := [(7, _), (5, _), (4, _), (3, _), (0, _), (1, _), (2, _)]) d_Rd_valueOf_74 (by rfl) (by decide) (by decide) (by rfl) ?_
          refine aw_goto (pc := 77) X (tgt := 39) d_Rd_valueOf_77 (by rfl) ?_
          -- stop 39 lv=7:n,5:l,4:n,3:n,0:r,1:n,2:n st=
          refine AW.lsub [0, 1, 2, 3, 4, 5, 6] (by rfl) ?_
          exact ih (i + 1) _ hbl (by omega) (by rw [← hr]; simp [valD, hL])
        · have hL := bN_eq.mp h52
          refine aw_lconst (pc := 55) X (v := 0) d_Rd_valueOf_55 (by decide) ?_
          refine aw_lret Y X rfl d_Rd_valueOf_56 (by omega) (by omega) (hP _ _ _ ?_)
          -- ret 56 lv=7:n,5:l,4:n,3:n,0:r,1:n,2:n st=l
          exact ⟨rfl, rfl, by rw [← hr]; simp [valD, hL, valF]⟩
  have J : ∀ (bl : Nat), bl < 2 → (bl ≠ 0 → s < t) → valF bl (valD 0 (sl f (s + bl) (t - (s + bl)))) = valL (sl f s (t - s)) → AW G E 8 nx 0 0 w 18 [(0, rf G q), (1, .int (nI s)), (2, .int (nI t))] [.int (nI bl)] := by
    intro bl hbl hs hr
    refine aw_istore_n (pc := 18) X (lv' := [(3, _), (0, _), (1, _), (2, _)]) d_Rd_valueOf_18 (by decide) (by rfl) ?_
    refine aw_iload_n (pc := 19) X d_Rd_valueOf_19 (by rfl) ?_
    refine aw_if_eqN (pc := 20) X (tgt := 29) d_Rd_valueOf_20 (by rfl) (by omega) (fun h20 => ?_) (fun h20 => ?_)
    -- br 20 lv=3:n,0:r,1:n,2:n st=
    · subst h20
      refine aw_iload_n (pc := 29) X d_Rd_valueOf_29 (by rfl) ?_
      refine aw_istore (pc := 30) X (lv' := [(4, _), (3, _), (0, _), (1, _), (2, _)]) d_Rd_valueOf_30 (by decide) (by rfl) ?_
      refine aw_lconst (pc := 32) X (v := 0) d_Rd_valueOf_32 (by decide) ?_
      refine aw_lstore (pc := 33) X (lv' := [(5, _), (4, _), (3, _), (0, _), (1, _), (2, _)]) d_Rd_valueOf_33 (by decide) (by rfl) ?_
      refine aw_iload (pc := 35) X d_Rd_valueOf_35 (by rfl) ?_
      refine aw_istore (pc := 37) X (lv' := [(7, _), (5, _), (4, _), (3, _), (0, _), (1, _), (2, _)]) d_Rd_valueOf_37 (by decide) (by rfl) ?_
      -- stop 39 lv=7:n,5:l,4:n,3:n,0:r,1:n,2:n st=
      exact L 0 s (t - s) s 0 (by omega) (by omega) hr
    · have hb1 : bl = 1 := by omega
      subst hb1
      refine aw_iload_n (pc := 23) X d_Rd_valueOf_23 (by rfl) ?_
      refine aw_iconstN (pc := 24) X 1 d_Rd_valueOf_24 (by decide) ?_
      refine aw_iaddN (pc := 25) X d_Rd_valueOf_25 ?_
      refine aw_goto (pc := 26) X (tgt := 30) d_Rd_valueOf_26 (by rfl) ?_
      refine aw_istore (pc := 30) X (lv' := [(4, _), (3, _), (0, _), (1, _), (2, _)]) d_Rd_valueOf_30 (by decide) (by rfl) ?_
      refine aw_lconst (pc := 32) X (v := 0) d_Rd_valueOf_32 (by decide) ?_
      refine aw_lstore (pc := 33) X (lv' := [(5, _), (4, _), (3, _), (0, _), (1, _), (2, _)]) d_Rd_valueOf_33 (by decide) (by rfl) ?_
      refine aw_iload (pc := 35) X d_Rd_valueOf_35 (by rfl) ?_
      refine aw_istore (pc := 37) X (lv' := [(7, _), (5, _), (4, _), (3, _), (0, _), (1, _), (2, _)]) d_Rd_valueOf_37 (by decide) (by rfl) ?_
      -- stop 39 lv=7:n,5:l,4:n,3:n,0:r,1:n,2:n st=
      exact L 1 (s + 1) (t - (s + 1)) (s + 1) 0 (by omega) (by have := hs h20; omega) hr
  refine aw_iload_n (pc := 0) X d_Rd_valueOf_0 (by rfl) ?_
  refine aw_iload_n (pc := 1) X d_Rd_valueOf_1 (by rfl) ?_
  refine aw_icmp_geN (pc := 2) X (tgt := 17) d_Rd_valueOf_2 (by rfl) (by omega) (by omega) (fun h2 => ?_) (fun h2 => ?_)
  -- br 2 lv=0:r,1:n,2:n st=
  · refine aw_iconstN (pc := 17) X 0 d_Rd_valueOf_17 (by decide) ?_
    -- stop 18 lv=0:r,1:n,2:n st=n
    exact J 0 (by omega) (by omega) (by rw [show t - (s + 0) = 0 by omega, show t - s = 0 by omega]; rfl)
  · have hfi := hf s
    have e : sl f s (t - s) = f s :: sl f (s + 1) (t - s - 1) := by rw [← sl_cons]; congr 1; omega
    refine aw_aload_nR (pc := 5) X d_Rd_valueOf_5 (by rfl) ?_
    refine aw_iload_n (pc := 6) X d_Rd_valueOf_6 (by rfl) ?_
    refine aw_caldN (pc := 7) X _ 0 (by omega) (by (repeat (first | rw [aw_up_eq] | rw [aw_up_ne _ _ (by first | assumption | omega)])) <;> first | assumption | rfl) (by rfl) (by omega) (by omega) d_Rd_valueOf_7 ?_
    refine aw_bipushN (pc := 8) X 45 d_Rd_valueOf_8 (by decide) ?_
    refine aw_icmp_neN (pc := 10) X (tgt := 17) d_Rd_valueOf_10 (by rfl) (by omega) (by omega) (fun h10 => ?_) (fun h10 => ?_)
    -- br 10 lv=0:r,1:n,2:n st=
    · refine aw_iconstN (pc := 17) X 0 d_Rd_valueOf_17 (by decide) ?_
      -- stop 18 lv=0:r,1:n,2:n st=n
      exact J 0 (by omega) (by omega) (by rw [Nat.add_zero, e]; simp [valL, h10])
    · refine aw_iconstN (pc := 13) X 1 d_Rd_valueOf_13 (by decide) ?_
      refine aw_goto (pc := 14) X (tgt := 18) d_Rd_valueOf_14 (by rfl) ?_
      -- stop 18 lv=0:r,1:n,2:n st=n
      exact J 1 (by omega) (by omega) (by rw [e, show t - (s + 1) = t - s - 1 by omega]; simp [valL, h10])
/-- Front() -/
theorem c_Fr_init {a : Nat} (ha : a < nx) (hd : 1 ≤ d) (h1 : w a = aObj 2 [.null, .int 0]) : AC G y_Fr_init b_Fr_init 1 none d true [rf G a] nx w 1 600 (fun r w' nx' => r = none ∧ w' = aw_up (aw_up w nx (aCh G 600 (fun _ => 0))) a (oFr G nx 600) ∧ nx' = nx + 1) := by
  have hne : a ≠ nx := by omega
  refine AC.ofW (by decide) (Nat.le_of_ble_eq_true rfl) ?_
  intro E P hP Y X
  have X : aw_X G "RescanDesk$Front" b_Fr_init 1 none "<init>" _ _ _ _ _ E := X
  refine AW.eql (lv' := [(0, _)]) (by rfl) ?_
  refine aw_aload_nR (pc := 0) X d_Fr_init_0 (by rfl) ?_
  refine aw_objInit (pc := 1) X k_131 k_94 k_95 d_Fr_init_1 (by omega) (Nat.le_trans (m := 20) (Nat.le_of_ble_eq_true rfl) (by omega)) ?_
  refine aw_aload_nR (pc := 4) X d_Fr_init_4 (by rfl) ?_
  refine aw_sipushN (pc := 5) X 600 d_Fr_init_5 (by decide) ?_
  refine aw_newaN (pc := 8) X (atype := .char) (ty := .char) rfl 0 (by rfl) (by intro C h; cases h) rfl (by decide) rfl (by omega) k_125 (by omega) (by omega) (by omega) d_Fr_init_8 ?_
  refine aw_putFO (pc := 10) X _ 0 (by omega) (by (repeat (first | rw [aw_up_eq] | rw [aw_up_ne _ _ (by first | assumption | omega)])) <;> first | assumption | rfl) (by rfl) in_Fr (by decide) ty_Fr ok_Fr nm_Fr k_132 (by rfl) (by rfl) (by rfl) (by rfl) (by rfl) (by simp) (fs' := [_, _]) (by rfl) d_Fr_init_10 ?_
  refine aw_aload_nR (pc := 13) X d_Fr_init_13 (by rfl) ?_
  refine aw_sipushN (pc := 14) X 600 d_Fr_init_14 (by decide) ?_
  refine aw_putO (pc := 17) X _ 1 (by omega) (by (repeat (first | rw [aw_up_eq] | rw [aw_up_ne _ _ (by first | assumption | omega)])) <;> first | assumption | rfl) (by rfl) in_Fr (by decide) ty_Fr ok_Fr nm_Fr k_134 (by rfl) (by rfl) (by rfl) (by simp) (fs' := [_, _]) (by rfl) d_Fr_init_17 ?_
  refine aw_vret Y X rfl d_Fr_init_20 (by omega) (by omega) (hP _ _ _ ?_)
  -- ret 20 lv=0:r st=
  refine ⟨rfl, ?_, rfl⟩
  rw [aw_up_up]
  rfl
/-- length() -/
theorem c_Fr_length {a c n : Nat} (ha : a < nx) (hn : n ≤ 600) (h1 : w a = oFr G c n) : AC G y_Fr_length b_Fr_length 1 (some .int) d false [rf G a] nx w 0 0 (fun r w' nx' => nx' = nx ∧ w' = w ∧ r = some (.int (nI (600 - n)))) := by
  refine AC.ofW (by decide) (Nat.le_of_ble_eq_true rfl) ?_
  intro E P hP Y X
  have X : aw_X G "RescanDesk$Front" b_Fr_length 1 (some .int) "length" _ _ _ _ _ E := X
  refine AW.eql (lv' := [(0, _)]) (by rfl) ?_
  refine aw_sipushN (pc := 0) X 600 d_Fr_length_0 (by decide) ?_
  refine aw_aload_nR (pc := 3) X d_Fr_length_3 (by rfl) ?_
  refine aw_getO (pc := 4) X _ 1 (by omega) (by (repeat (first | rw [aw_up_eq] | rw [aw_up_ne _ _ (by first | assumption | omega)])) <;> first | assumption | rfl) (by rfl) in_Fr (by decide) k_134 (by rfl) d_Fr_length_4 ?_
  refine aw_isubN (pc := 7) X d_Fr_length_7 (by omega) ?_
  refine aw_iret Y X rfl d_Fr_length_8 (by omega) (by omega) (hP _ _ _ ?_)
  -- ret 8 lv=0:r st=n
  exact ⟨rfl, rfl, rfl⟩
/-- putBefore(text) -/
theorem c_Fr_putBefore {a c n a2 c2 n2 m2 : Nat} {f g : Nat → Nat} (ha : a < nx) (hc : c < nx) (ha2 : a2 < nx) (hc2 : c2 < nx) (hac : a ≠ c) (haa : a ≠ a2) (hac2 : a ≠ c2) (hd : 1 ≤ d) (hn : n ≤ 600) (hm : m2 < 2 ^ 20) (hn2 : n2 ≤ m2) (hg : ∀ j, g j < 65536) (h1 : w a = oFr G c n) (h2 : w c = aCh G 600 f) (h3 : w a2 = oTx G c2 n2) (h4 : w c2 = aCh G m2 g) : AC G y_Fr_putBefore b_Fr_putBefore 2 (some .boolean) d false [rf G a, rf G a2] nx w 0 0 (fun r w' nx' => nx' = nx ∧ ((n2 ≤ n ∧ r = some (.int (nI 1)) ∧ w' = aw_up (aw_up w a (oFr G c (n - n2))) c (aCh G 600 (aw_cpn g f 0 (n - n2) n2))) ∨ (n < n2 ∧ r = some (.int (nI 0)) ∧ w' = w))) := by
  have e1 := Ne.symm hac
  have e2 := Ne.symm haa
  have e3 := Ne.symm hac2
  refine AC.ofW (by decide) (Nat.le_of_ble_eq_true rfl) ?_
  intro E P hP Y X
  have X : aw_X G "RescanDesk$Front" b_Fr_putBefore 2 (some .boolean) "putBefore" _ _ _ _ _ E := X
  refine AW.eql (lv' := [(0, _), (1, _)]) (by rfl) ?_
  refine aw_aload_nR (pc := 0) X d_Fr_putBefore_0 (by rfl) ?_
  refine aw_getNO (pc := 1) X _ 1 (by omega) (by (repeat (first | rw [aw_up_eq] | rw [aw_up_ne _ _ (by first | assumption | omega)])) <;> first | assumption | rfl) (by rfl) in_Tx (by decide) k_116 (by rfl) d_Fr_putBefore_1 ?_
  refine aw_aload_nR (pc := 4) X d_Fr_putBefore_4 (by rfl) ?_
  refine aw_getO (pc := 5) X _ 1 (by omega) (by (repeat (first | rw [aw_up_eq] | rw [aw_up_ne _ _ (by first | assumption | omega)])) <;> first | assumption | rfl) (by rfl) in_Fr (by decide) k_134 (by rfl) d_Fr_putBefore_5 ?_
  refine aw_icmp_leN (pc := 8) X (tgt := 13) d_Fr_putBefore_8 (by rfl) (by omega) (by omega) (fun h8 => ?_) (fun h8 => ?_)
  -- br 8 lv=0:r,1:r st=
  · refine aw_aload_nR (pc := 13) X d_Fr_putBefore_13 (by rfl) ?_
    refine aw_dup (pc := 14) X d_Fr_putBefore_14 (by rfl) ?_
    refine aw_getO (pc := 15) X _ 1 (by omega) (by (repeat (first | rw [aw_up_eq] | rw [aw_up_ne _ _ (by first | assumption | omega)])) <;> first | assumption | rfl) (by rfl) in_Fr (by decide) k_134 (by rfl) d_Fr_putBefore_15 ?_
    refine aw_aload_nR (pc := 18) X d_Fr_putBefore_18 (by rfl) ?_
    refine aw_getNO (pc := 19) X _ 1 (by omega) (by (repeat (first | rw [aw_up_eq] | rw [aw_up_ne _ _ (by first | assumption | omega)])) <;> first | assumption | rfl) (by rfl) in_Tx (by decide) k_116 (by rfl) d_Fr_putBefore_19 ?_
    refine aw_isubN (pc := 22) X d_Fr_putBefore_22 (by omega) ?_
    refine aw_putO (pc := 23) X _ 1 (by omega) (by (repeat (first | rw [aw_up_eq] | rw [aw_up_ne _ _ (by first | assumption | omega)])) <;> first | assumption | rfl) (by rfl) in_Fr (by decide) ty_Fr ok_Fr nm_Fr k_134 (by rfl) (by rfl) (by rfl) (by simp) (fs' := [_, _]) (by rfl) d_Fr_putBefore_23 ?_
    refine aw_aload_nR (pc := 26) X d_Fr_putBefore_26 (by rfl) ?_
    refine aw_getNO (pc := 27) X _ 0 (by omega) (by (repeat (first | rw [aw_up_eq] | rw [aw_up_ne _ _ (by first | assumption | omega)])) <;> first | assumption | rfl) (by rfl) in_Tx (by decide) k_108 (by rfl) d_Fr_putBefore_27 ?_
    refine aw_iconstN (pc := 30) X 0 d_Fr_putBefore_30 (by decide) ?_
    refine aw_aload_nR (pc := 31) X d_Fr_putBefore_31 (by rfl) ?_
    refine aw_getO (pc := 32) X _ 0 (by omega) (by (repeat (first | rw [aw_up_eq] | rw [aw_up_ne _ _ (by first | assumption | omega)])) <;> first | assumption | rfl) (by rfl) in_Fr (by decide) k_132 (by rfl) d_Fr_putBefore_32 ?_
    refine aw_aload_nR (pc := 35) X d_Fr_putBefore_35 (by rfl) ?_
    refine aw_getO (pc := 36) X _ 1 (by omega) (by (repeat (first | rw [aw_up_eq] | rw [aw_up_ne _ _ (by first | assumption | omega)])) <;> first | assumption | rfl) (by rfl) in_Fr (by decide) k_134 (by rfl) d_Fr_putBefore_36 ?_
    refine aw_aload_nR (pc := 39) X d_Fr_putBefore_39 (by rfl) ?_
    refine aw_getNO (pc := 40) X _ 1 (by omega) (by (repeat (first | rw [aw_up_eq] | rw [aw_up_ne _ _ (by first | assumption | omega)])) <;> first | assumption | rfl) (by rfl) in_Tx (by decide) k_116 (by rfl) d_Fr_putBefore_40 ?_
    refine aw_copyC (pc := 43) X _ _ (by omega) (by (repeat (first | rw [aw_up_eq] | rw [aw_up_ne _ _ (by first | assumption | omega)])) <;> first | assumption | rfl) (by omega) (by (repeat (first | rw [aw_up_eq] | rw [aw_up_ne _ _ (by first | assumption | omega)])) <;> first | assumption | rfl) (by omega) (by omega) (by omega) (by omega) (by assumption) k_509 k_511 k_510 k_84 (by omega) (Nat.le_trans (m := 40) (Nat.le_of_ble_eq_true rfl) (by omega)) d_Fr_putBefore_43 ?_
    refine aw_iconstN (pc := 46) X 1 d_Fr_putBefore_46 (by decide) ?_
    refine aw_zret Y X rfl (by decide +kernel) d_Fr_putBefore_47 (by omega) (by omega) (hP _ _ _ ?_)
    -- ret 47 lv=0:r,1:r st=n
    exact ⟨rfl, Or.inl ⟨h8, rfl, rfl⟩⟩
  · refine aw_iconstN (pc := 11) X 0 d_Fr_putBefore_11 (by decide) ?_
    refine aw_zret Y X rfl (by decide +kernel) d_Fr_putBefore_12 (by omega) (by omega) (hP _ _ _ ?_)
    -- ret 12 lv=0:r,1:r st=n
    exact ⟨rfl, Or.inr ⟨h8, rfl, rfl⟩⟩
/-- load(text) -/
theorem c_Fr_load {a c n a2 c2 n2 m2 : Nat} {f g : Nat → Nat} (ha : a < nx) (hc : c < nx) (ha2 : a2 < nx) (hc2 : c2 < nx) (hac : a ≠ c) (haa : a ≠ a2) (hac2 : a ≠ c2) (hd : 2 ≤ d) (hm : m2 ≤ 600) (hn2 : n2 ≤ m2) (hg : ∀ j, g j < 65536) (h1 : w a = oFr G c n) (h2 : w c = aCh G 600 f) (h3 : w a2 = oTx G c2 n2) (h4 : w c2 = aCh G m2 g) : AC G y_Fr_load b_Fr_load 2 none d false [rf G a, rf G a2] nx w 0 0 (fun r w' nx' => nx' = nx ∧ r = none ∧ w' = aw_up (aw_up w a (oFr G c (600 - n2))) c (aCh G 600 (aw_cpn g f 0 (600 - n2) n2))) := by
  have e1 := Ne.symm hac
  have e2 := Ne.symm haa
  have e3 := Ne.symm hac2
  refine AC.ofW (by decide) (Nat.le_of_ble_eq_true rfl) ?_
  intro E P hP Y X
  have X : aw_X G "RescanDesk$Front" b_Fr_load 2 none "load" _ _ _ _ _ E := X
  refine AW.eql (lv' := [(0, _), (1, _)]) (by rfl) ?_
  refine aw_aload_nR (pc := 0) X d_Fr_load_0 (by rfl) ?_
  refine aw_sipushN (pc := 1) X 600 d_Fr_load_1 (by decide) ?_
  refine aw_putO (pc := 4) X _ 1 (by omega) (by (repeat (first | rw [aw_up_eq] | rw [aw_up_ne _ _ (by first | assumption | omega)])) <;> first | assumption | rfl) (by rfl) in_Fr (by decide) ty_Fr ok_Fr nm_Fr k_134 (by rfl) (by rfl) (by rfl) (by simp) (fs' := [_, _]) (by rfl) d_Fr_load_4 ?_
  refine aw_aload_nR (pc := 7) X d_Fr_load_7 (by rfl) ?_
  refine aw_aload_nR (pc := 8) X d_Fr_load_8 (by rfl) ?_
  -- invokevirtual 9 lv=0:r,1:r st=r,r
  refine aw_callV (pc := 9) X _ (c_Fr_putBefore (d := 1) (a := a) (c := c) (n := 600) (a2 := a2) (c2 := c2) (n2 := n2) (m2 := m2) (f := f) (g := g) ha hc ha2 hc2 hac haa hac2 (by omega) (by omega) (by omega) hn2 hg (by rw [aw_up_eq]; rfl) (by rw [aw_up_ne _ _ e1]; exact h2) (by rw [aw_up_ne _ _ e2]; exact h3) (by rw [aw_up_ne _ _ e3]; exact h4)) q_Fr_putBefore k_505 k_506 k_507 (by omega) (by (repeat (first | rw [aw_up_eq] | rw [aw_up_ne _ _ (by first | assumption | omega)])) <;> first | assumption | rfl) (by rfl) d_Fr_load_9 (by omega) (Nat.le_of_ble_eq_true rfl) ⟨by omega, by omega⟩ (fun h => by cases h) (fun r w' nx' hp => ?_)
  obtain ⟨rfl, ⟨-, rfl, rfl⟩ | ⟨h, -⟩⟩ := hp
  · refine aw_pop (pc := 12) X d_Fr_load_12 (by rfl) ?_
    refine aw_vret Y X rfl d_Fr_load_13 (by omega) (by omega) (hP _ _ _ ?_)
    -- ret 13 lv=0:r,1:r st=
    exact ⟨rfl, rfl, by rw [aw_up_up]⟩
  · omega
/-- closingQuote(), the quote being open at the start -/
theorem c_Fr_closingQuote {a c n : Nat} {f : Nat → Nat} (ha : a < nx) (hc : c < nx) (hn : n < 600) (hf : ∀ j, f j < 65536) (hq : f n = 96) (h1 : w a = oFr G c n) (h2 : w c = aCh G 600 f) : AC G y_Fr_closingQuote b_Fr_closingQuote 3 (some .int) d false [rf G a] nx w 0 0 (fun r w' nx' => nx' = nx ∧ w' = w ∧ ((qcl 1 (sl f (n + 1) (600 - (n + 1))) = none ∧ r = some (.int (-1))) ∨ ∃ k, qcl 1 (sl f (n + 1) (600 - (n + 1))) = some k ∧ r = some (.int (nI (n + 1 + k))))) := by
  refine AC.ofW (by decide) (Nat.le_of_ble_eq_true rfl) ?_
  intro E P hP Y X
  have X : aw_X G "RescanDesk$Front" b_Fr_closingQuote 3 (some .int) "closingQuote" _ _ _ _ _ E := X
  refine AW.eql (lv' := [(0, _)]) (by rfl) ?_
  have L : ∀ (k i e : Nat), i + k = 600 → 1 ≤ e → e ≤ i → (qcl e (sl f i k)).map (· + i) = (qcl 1 (sl f (n + 1) (600 - (n + 1)))).map (· + (n + 1)) → AW G E 3 nx 0 0 w 7 [(2, .int (nI i)), (1, .int (nI e)), (0, rf G a)] [] := by
    intro k
    induction k with
    | zero =>
      intro i e hi he hei hr
      rw [sl_0] at hr
      refine aw_iload_n (pc := 7) X d_Fr_closingQuote_7 (by rfl) ?_
      refine aw_sipushN (pc := 8) X 600 d_Fr_closingQuote_8 (by decide) ?_
      refine aw_icmp_geN (pc := 11) X (tgt := 57) d_Fr_closingQuote_11 (by rfl) (by omega) (by omega) (fun h11 => ?_) (fun h11 => ?_)
      -- br 11 lv=2:n,1:n,0:r st=
      · refine aw_iconst (pc := 57) X (v := -1) d_Fr_closingQuote_57 (by decide) ?_
        refine aw_iret Y X rfl d_Fr_closingQuote_58 (by omega) (by omega) (hP _ _ _ ?_)
        -- ret 58 lv=2:n,1:n,0:r st=i
        refine ⟨rfl, rfl, Or.inl ⟨?_, rfl⟩⟩
        cases h : qcl 1 (sl f (n + 1) (600 - (n + 1))) with
        | none => rfl
        | some k => rw [h] at hr; cases hr
      · omega
    | succ k ih =>
      intro i e hi he hei hr
      have hfi := hf i
      have hmm : ∀ o : Option Nat, (o.map (· + 1)).map (· + i) = o.map (· + (i + 1)) := fun o => by
        cases o with
        | none => rfl
        | some x => show some (x + 1 + i) = some (x + (i + 1)); congr 1; omega
      rw [sl_cons] at hr
      refine aw_iload_n (pc := 7) X d_Fr_closingQuote_7 (by rfl) ?_
      refine aw_sipushN (pc := 8) X 600 d_Fr_closingQuote_8 (by decide) ?_
      refine aw_icmp_geN (pc := 11) X (tgt := 57) d_Fr_closingQuote_11 (by rfl) (by omega) (by omega) (fun h11 => ?_) (fun h11 => ?_)
      -- br 11 lv=2:n,1:n,0:r st=
      · omega
      · refine aw_aload_nR (pc := 14) X d_Fr_closingQuote_14 (by rfl) ?_
        refine aw_getO (pc := 15) X _ 0 (by omega) (by (repeat (first | rw [aw_up_eq] | rw [aw_up_ne _ _ (by first | assumption | omega)])) <;> first | assumption | rfl) (by rfl) in_Fr (by decide) k_132 (by rfl) d_Fr_closingQuote_15 ?_
        refine aw_iload_n (pc := 18) X d_Fr_closingQuote_18 (by rfl) ?_
        refine aw_caldN (pc := 19) X _ 0 (by omega) (by (repeat (first | rw [aw_up_eq] | rw [aw_up_ne _ _ (by first | assumption | omega)])) <;> first | assumption | rfl) (by rfl) (by omega) (by omega) d_Fr_closingQuote_19 ?_
        refine aw_bipushN (pc := 20) X 96 d_Fr_closingQuote_20 (by decide) ?_
        refine aw_icmp_neN (pc := 22) X (tgt := 31) d_Fr_closingQuote_22 (by rfl) (by omega) (by omega) (fun h22 => ?_) (fun h22 => ?_)
        -- br 22 lv=2:n,1:n,0:r st=
        · refine aw_aload_nR (pc := 31) X d_Fr_closingQuote_31 (by rfl) ?_
          refine aw_getO (pc := 32) X _ 0 (by omega) (by (repeat (first | rw [aw_up_eq] | rw [aw_up_ne _ _ (by first | assumption | omega)])) <;> first | assumption | rfl) (by rfl) in_Fr (by decide) k_132 (by rfl) d_Fr_closingQuote_32 ?_
          refine aw_iload_n (pc := 35) X d_Fr_closingQuote_35 (by rfl) ?_
          refine aw_caldN (pc := 36) X _ 0 (by omega) (by (repeat (first | rw [aw_up_eq] | rw [aw_up_ne _ _ (by first | assumption | omega)])) <;> first | assumption | rfl) (by rfl) (by omega) (by omega) d_Fr_closingQuote_36 ?_
          refine aw_bipushN (pc := 37) X 39 d_Fr_closingQuote_37 (by decide) ?_
          refine aw_icmp_neN (pc := 39) X (tgt := 51) d_Fr_closingQuote_39 (by rfl) (by omega) (by omega) (fun h39 => ?_) (fun h39 => ?_)
          -- br 39 lv=2:n,1:n,0:r st=
          · rw [qcl, if_neg h22, if_neg h39, hmm] at hr
            refine aw_iincN (pc := 51) X 1 (lv' := [(2, _), (1, _), (0, _)]) d_Fr_closingQuote_51 (by rfl) (by decide) (by decide) (by rfl) ?_
            refine aw_goto (pc := 54) X (tgt := 7) d_Fr_closingQuote_54 (by rfl) ?_
            -- stop 7 lv=2:n,1:n,0:r st=
            exact ih (i + 1) e (by omega) he (by omega) hr
          · refine aw_iincM (pc := 42) X 1 (lv' := [(1, _), (2, _), (0, _)]) d_Fr_closingQuote_42 (by rfl) (by decide) (by omega) (by decide) (by rfl) ?_
            refine aw_iload_n (pc := 45) X d_Fr_closingQuote_45 (by rfl) ?_
            refine aw_if_neN (pc := 46) X (tgt := 51) d_Fr_closingQuote_46 (by rfl) (by omega) (fun h46 => ?_) (fun h46 => ?_)
            -- br 46 lv=1:n,2:n,0:r st=
            · rw [qcl, if_neg h22, if_pos h39, if_neg (by omega), hmm] at hr
              refine aw_iincN (pc := 51) X 1 (lv' := [(2, _), (1, _), (0, _)]) d_Fr_closingQuote_51 (by rfl) (by decide) (by decide) (by rfl) ?_
              refine aw_goto (pc := 54) X (tgt := 7) d_Fr_closingQuote_54 (by rfl) ?_
              -- stop 7 lv=2:n,1:n,0:r st=
              exact ih (i + 1) (e - 1) (by omega) (by omega) (by omega) hr
            · rw [qcl, if_neg h22, if_pos h39, if_pos (by omega)] at hr
              refine aw_iload_n (pc := 49) X d_Fr_closingQuote_49 (by rfl) ?_
              refine aw_iret Y X rfl d_Fr_closingQuote_50 (by omega) (by omega) (hP _ _ _ ?_)
              -- ret 50 lv=1:n,2:n,0:r st=n
              refine ⟨rfl, rfl, Or.inr ?_⟩
              cases h : qcl 1 (sl f (n + 1) (600 - (n + 1))) with
              | none => rw [h] at hr; cases hr
              | some k =>
                rw [h] at hr
                refine ⟨k, rfl, ?_⟩
                have : 0 + i = k + (n + 1) := Option.some.inj hr
                rw [show i = n + 1 + k by omega]
        · rw [qcl, if_pos h22, hmm] at hr
          refine aw_iincN (pc := 25) X 1 (lv' := [(1, _), (2, _), (0, _)]) d_Fr_closingQuote_25 (by rfl) (by decide) (by decide) (by rfl) ?_
          refine aw_goto (pc := 28) X (tgt := 51) d_Fr_closingQuote_28 (by rfl) ?_
          refine aw_iincN (pc := 51) X 1 (lv' := [(2, _), (1, _), (0, _)]) d_Fr_closingQuote_51 (by rfl) (by decide) (by decide) (by rfl) ?_
          refine aw_goto (pc := 54) X (tgt := 7) d_Fr_closingQuote_54 (by rfl) ?_
          -- stop 7 lv=2:n,1:n,0:r st=
          refine AW.lsub [0, 1, 2] (by rfl) ?_
          exact ih (i + 1) (e + 1) (by omega) (by omega) (by omega) hr
  have hqn : f n = 96 := hq
  refine aw_iconstN (pc := 0) X 0 d_Fr_closingQuote_0 (by decide) ?_
  refine aw_istore_n (pc := 1) X (lv' := [(1, _), (0, _)]) d_Fr_closingQuote_1 (by decide) (by rfl) ?_
  refine aw_aload_nR (pc := 2) X d_Fr_closingQuote_2 (by rfl) ?_
  refine aw_getO (pc := 3) X _ 1 (by omega) (by (repeat (first | rw [aw_up_eq] | rw [aw_up_ne _ _ (by first | assumption | omega)])) <;> first | assumption | rfl) (by rfl) in_Fr (by decide) k_134 (by rfl) d_Fr_closingQuote_3 ?_
  refine aw_istore_n (pc := 6) X (lv' := [(2, _), (1, _), (0, _)]) d_Fr_closingQuote_6 (by decide) (by rfl) ?_
  refine aw_iload_n (pc := 7) X d_Fr_closingQuote_7 (by rfl) ?_
  refine aw_sipushN (pc := 8) X 600 d_Fr_closingQuote_8 (by decide) ?_
  refine aw_icmp_geN (pc := 11) X (tgt := 57) d_Fr_closingQuote_11 (by rfl) (by omega) (by omega) (fun h11 => ?_) (fun h11 => ?_)
  -- br 11 lv=2:n,1:n,0:r st=
  · omega
  · refine aw_aload_nR (pc := 14) X d_Fr_closingQuote_14 (by rfl) ?_
    refine aw_getO (pc := 15) X _ 0 (by omega) (by (repeat (first | rw [aw_up_eq] | rw [aw_up_ne _ _ (by first | assumption | omega)])) <;> first | assumption | rfl) (by rfl) in_Fr (by decide) k_132 (by rfl) d_Fr_closingQuote_15 ?_
    refine aw_iload_n (pc := 18) X d_Fr_closingQuote_18 (by rfl) ?_
    refine aw_caldN (pc := 19) X _ 0 (by omega) (by (repeat (first | rw [aw_up_eq] | rw [aw_up_ne _ _ (by first | assumption | omega)])) <;> first | assumption | rfl) (by rfl) (by omega) (by omega) d_Fr_closingQuote_19 ?_
    refine aw_bipushN (pc := 20) X 96 d_Fr_closingQuote_20 (by decide) ?_
    refine aw_icmp_neN (pc := 22) X (tgt := 31) d_Fr_closingQuote_22 (by rfl) (by omega) (by omega) (fun h22 => ?_) (fun h22 => ?_)
    -- br 22 lv=2:n,1:n,0:r st=
    · exact absurd hqn h22
    · refine aw_iincN (pc := 25) X 1 (lv' := [(1, _), (2, _), (0, _)]) d_Fr_closingQuote_25 (by rfl) (by decide) (by decide) (by rfl) ?_
      refine aw_goto (pc := 28) X (tgt := 51) d_Fr_closingQuote_28 (by rfl) ?_
      refine aw_iincN (pc := 51) X 1 (lv' := [(2, _), (1, _), (0, _)]) d_Fr_closingQuote_51 (by rfl) (by decide) (by decide) (by rfl) ?_
      refine aw_goto (pc := 54) X (tgt := 7) d_Fr_closingQuote_54 (by rfl) ?_
      -- stop 7 lv=2:n,1:n,0:r st=
      exact L (600 - (n + 1)) (n + 1) 1 (by omega) (by omega) (by omega) rfl
/-- takeLine() -/
theorem c_Fr_takeLine {a c n : Nat} {f : Nat → Nat} (ha : a < nx) (hc : c < nx) (hac : a ≠ c) (hn : n ≤ 600) (hf : ∀ j, f j < 65536) (h1 : w a = oFr G c n) (h2 : w c = aCh G 600 f) : AC G y_Fr_takeLine b_Fr_takeLine 1 none d false [rf G a] nx w 0 0 (fun r w' nx' => nx' = nx ∧ r = none ∧ w' = aw_up w a (oFr G c (n + lnLen (sl f n (600 - n))))) := by
  have e1 := Ne.symm hac
  refine AC.ofW (by decide) (Nat.le_of_ble_eq_true rfl) ?_
  intro E P hP Y X
  have X : aw_X G "RescanDesk$Front" b_Fr_takeLine 1 none "takeLine" _ _ _ _ _ E := X
  refine AW.eql (lv' := [(0, _)]) (by rfl) ?_
  have L : ∀ (k i : Nat), i + k = 600 → i + lnLen (sl f i k) = n + lnLen (sl f n (600 - n)) → AW G E 1 nx 0 0 (aw_up w a (oFr G c i)) 0 [(0, rf G a)] [] := by
    intro k
    induction k with
    | zero =>
      intro i hi hr
      have g1 : aw_up w a (oFr G c i) a = oFr G c i := aw_up_eq _ _ _
      have g2 : aw_up w a (oFr G c i) c = aCh G 600 f := by rw [aw_up_ne _ _ e1]; exact h2
      rw [sl_0] at hr
      refine aw_aload_nR (pc := 0) X d_Fr_takeLine_0 (by rfl) ?_
      refine aw_getO (pc := 1) X _ 1 (by omega) (by (repeat (first | rw [aw_up_eq] | rw [aw_up_ne _ _ (by first | assumption | omega)])) <;> first | assumption | rfl) (by rfl) in_Fr (by decide) k_134 (by rfl) d_Fr_takeLine_1 ?_
      refine aw_sipushN (pc := 4) X 600 d_Fr_takeLine_4 (by decide) ?_
      refine aw_icmp_geN (pc := 7) X (tgt := 37) d_Fr_takeLine_7 (by rfl) (by omega) (by omega) (fun h7 => ?_) (fun h7 => ?_)
      -- br 7 lv=0:r st=
      · refine aw_aload_nR (pc := 37) X d_Fr_takeLine_37 (by rfl) ?_
        refine aw_getO (pc := 38) X _ 1 (by omega) (by (repeat (first | rw [aw_up_eq] | rw [aw_up_ne _ _ (by first | assumption | omega)])) <;> first | assumption | rfl) (by rfl) in_Fr (by decide) k_134 (by rfl) d_Fr_takeLine_38 ?_
        refine aw_sipushN (pc := 41) X 600 d_Fr_takeLine_41 (by decide) ?_
        refine aw_icmp_geN (pc := 44) X (tgt := 57) d_Fr_takeLine_44 (by rfl) (by omega) (by omega) (fun h44 => ?_) (fun h44 => ?_)
        -- br 44 lv=0:r st=
        · refine aw_vret Y X rfl d_Fr_takeLine_57 (by omega) (by omega) (hP _ _ _ ?_)
          -- ret 57 lv=0:r st=
          exact ⟨rfl, rfl, by rw [← hr]; rfl⟩
        · omega
      · omega
    | succ k ih =>
      intro i hi hr
      have g1 : aw_up w a (oFr G c i) a = oFr G c i := aw_up_eq _ _ _
      have g2 : aw_up w a (oFr G c i) c = aCh G 600 f := by rw [aw_up_ne _ _ e1]; exact h2
      have hfi := hf i
      rw [sl_cons] at hr
      refine aw_aload_nR (pc := 0) X d_Fr_takeLine_0 (by rfl) ?_
      refine aw_getO (pc := 1) X _ 1 (by omega) (by (repeat (first | rw [aw_up_eq] | rw [aw_up_ne _ _ (by first | assumption | omega)])) <;> first | assumption | rfl) (by rfl) in_Fr (by decide) k_134 (by rfl) d_Fr_takeLine_1 ?_
      refine aw_sipushN (pc := 4) X 600 d_Fr_takeLine_4 (by decide) ?_
      refine aw_icmp_geN (pc := 7) X (tgt := 37) d_Fr_takeLine_7 (by rfl) (by omega) (by omega) (fun h7 => ?_) (fun h7 => ?_)
      -- br 7 lv=0:r st=
      · omega
      · refine aw_aload_nR (pc := 10) X d_Fr_takeLine_10 (by rfl) ?_
        refine aw_getO (pc := 11) X _ 0 (by omega) (by (repeat (first | rw [aw_up_eq] | rw [aw_up_ne _ _ (by first | assumption | omega)])) <;> first | assumption | rfl) (by rfl) in_Fr (by decide) k_132 (by rfl) d_Fr_takeLine_11 ?_
        refine aw_aload_nR (pc := 14) X d_Fr_takeLine_14 (by rfl) ?_
        refine aw_getO (pc := 15) X _ 1 (by omega) (by (repeat (first | rw [aw_up_eq] | rw [aw_up_ne _ _ (by first | assumption | omega)])) <;> first | assumption | rfl) (by rfl) in_Fr (by decide) k_134 (by rfl) d_Fr_takeLine_15 ?_
        refine aw_caldN (pc := 18) X _ 0 (by omega) (by (repeat (first | rw [aw_up_eq] | rw [aw_up_ne _ _ (by first | assumption | omega)])) <;> first | assumption | rfl) (by rfl) (by omega) (by omega) d_Fr_takeLine_18 ?_
        refine aw_bipushN (pc := 19) X 10 d_Fr_takeLine_19 (by decide) ?_
        refine aw_icmp_eqN (pc := 21) X (tgt := 37) d_Fr_takeLine_21 (by rfl) (by omega) (by omega) (fun h21 => ?_) (fun h21 => ?_)
        -- br 21 lv=0:r st=
        · rw [lnLen, List.takeWhile_cons_of_neg (by simp [h21])] at hr
          refine aw_aload_nR (pc := 37) X d_Fr_takeLine_37 (by rfl) ?_
          refine aw_getO (pc := 38) X _ 1 (by omega) (by (repeat (first | rw [aw_up_eq] | rw [aw_up_ne _ _ (by first | assumption | omega)])) <;> first | assumption | rfl) (by rfl) in_Fr (by decide) k_134 (by rfl) d_Fr_takeLine_38 ?_
          refine aw_sipushN (pc := 41) X 600 d_Fr_takeLine_41 (by decide) ?_
          refine aw_icmp_geN (pc := 44) X (tgt := 57) d_Fr_takeLine_44 (by rfl) (by omega) (by omega) (fun h44 => ?_) (fun h44 => ?_)
          -- br 44 lv=0:r st=
          · omega
          · refine aw_aload_nR (pc := 47) X d_Fr_takeLine_47 (by rfl) ?_
            refine aw_dup (pc := 48) X d_Fr_takeLine_48 (by rfl) ?_
            refine aw_getO (pc := 49) X _ 1 (by omega) (by (repeat (first | rw [aw_up_eq] | rw [aw_up_ne _ _ (by first | assumption | omega)])) <;> first | assumption | rfl) (by rfl) in_Fr (by decide) k_134 (by rfl) d_Fr_takeLine_49 ?_
            refine aw_iconstN (pc := 52) X 1 d_Fr_takeLine_52 (by decide) ?_
            refine aw_iaddN (pc := 53) X d_Fr_takeLine_53 ?_
            refine aw_putO (pc := 54) X _ 1 (by omega) (by (repeat (first | rw [aw_up_eq] | rw [aw_up_ne _ _ (by first | assumption | omega)])) <;> first | assumption | rfl) (by rfl) in_Fr (by decide) ty_Fr ok_Fr nm_Fr k_134 (by rfl) (by rfl) (by rfl) (by simp) (fs' := [_, _]) (by rfl) d_Fr_takeLine_54 ?_
            refine aw_vret Y X rfl d_Fr_takeLine_57 (by omega) (by omega) (hP _ _ _ ?_)
            -- ret 57 lv=0:r st=
            refine ⟨rfl, rfl, ?_⟩
            rw [aw_up_up, ← hr]
            simp
            rfl
        · have hr2 : i + 1 + lnLen (sl f (i + 1) k) = n + lnLen (sl f n (600 - n)) := by
            rw [← hr, lnLen, lnLen, List.takeWhile_cons_of_pos (by simp [h21])]
            simp only [List.length_cons, sl_len]
            split <;> split <;> omega
          refine aw_aload_nR (pc := 24) X d_Fr_takeLine_24 (by rfl) ?_
          refine aw_dup (pc := 25) X d_Fr_takeLine_25 (by rfl) ?_
          refine aw_getO (pc := 26) X _ 1 (by omega) (by (repeat (first | rw [aw_up_eq] | rw [aw_up_ne _ _ (by first | assumption | omega)])) <;> first | assumption | rfl) (by rfl) in_Fr (by decide) k_134 (by rfl) d_Fr_takeLine_26 ?_
          refine aw_iconstN (pc := 29) X 1 d_Fr_takeLine_29 (by decide) ?_
          refine aw_iaddN (pc := 30) X d_Fr_takeLine_30 ?_
          refine aw_putO (pc := 31) X _ 1 (by omega) (by (repeat (first | rw [aw_up_eq] | rw [aw_up_ne _ _ (by first | assumption | omega)])) <;> first | assumption | rfl) (by rfl) in_Fr (by decide) ty_Fr ok_Fr nm_Fr k_134 (by rfl) (by rfl) (by rfl) (by simp) (fs' := [_, _]) (by rfl) d_Fr_takeLine_31 ?_
          refine aw_goto (pc := 34) X (tgt := 0) d_Fr_takeLine_34 (by rfl) ?_
          -- stop 0 lv=0:r st=
          rw [aw_up_up]
          exact ih (i + 1) (by omega) hr2
  refine AW.eqw (aw_up_self h1).symm ?_
  exact L (600 - n) n (by omega) rfl
end
end
section
/-! texts as strings. hTx G w a m s: at offset a lies a Text of room m (its array behind it) that holds s; fr lo hi w w': nothing but lo .. hi - 1 has changed -/
def fr (lo hi : Nat) (w w' : Nat → va_E) : Prop := ∀ x, x < lo ∨ hi ≤ x → w' x = w x
theorem fr.refl (lo hi : Nat) (w : Nat → va_E) : fr lo hi w w := fun _ _ => rfl
theorem fr.trans {lo hi : Nat} {w w1 w2 : Nat → va_E} (h1 : fr lo hi w w1) (h2 : fr lo hi w1 w2) : fr lo hi w w2 := fun x hx => (h2 x hx).trans (h1 x hx)
theorem fr.mono {lo hi lo' hi' : Nat} {w w' : Nat → va_E} (h : fr lo hi w w') (h1 : lo' ≤ lo) (h2 : hi ≤ hi') : fr lo' hi' w w' := fun x hx => h x (by omega)
theorem fr.up {lo hi : Nat} {w w' : Nat → va_E} {a : Nat} (c : va_E) (h : fr lo hi w w') (ha : lo ≤ a ∧ a < hi) : fr lo hi w (aw_up w' a c) := fun x hx => by
  rw [aw_up_ne _ _ (by omega)]
  exact h x hx
def hTx (G : aw_G) (w : Nat → va_E) (a m : Nat) (s : List Nat) : Prop := ∃ g : Nat → Nat, w a = oTx G (a + 1) s.length ∧ w (a + 1) = aCh G m g ∧ s = sl g 0 s.length ∧ s.length ≤ m ∧ ∀ j, g j < 65536
theorem hTx.le {G : aw_G} {w : Nat → va_E} {a m : Nat} {s : List Nat} (h : hTx G w a m s) : s.length ≤ m := by
  obtain ⟨g, -, -, -, h, -⟩ := h
  exact h
theorem hTx.ch {G : aw_G} {w : Nat → va_E} {a m : Nat} {s : List Nat} (h : hTx G w a m s) : ∀ c ∈ s, c < 65536 := by
  obtain ⟨g, -, -, h3, -, h5⟩ := h
  intro c hc
  rw [h3] at hc
  obtain ⟨i, -, rfl⟩ := List.mem_map.mp hc
  exact h5 _
theorem hTx.obj {G : aw_G} {w : Nat → va_E} {a m : Nat} {s : List Nat} (h : hTx G w a m s) : w a = oTx G (a + 1) s.length := by
  obtain ⟨g, h, -⟩ := h
  exact h
theorem hTx.arr {G : aw_G} {w : Nat → va_E} {a m : Nat} {s : List Nat} (h : hTx G w a m s) : ∃ g : Nat → Nat, w (a + 1) = aCh G m g ∧ s = sl g 0 s.length ∧ ∀ j, g j < 65536 := by
  obtain ⟨g, -, h2, h3, -, h5⟩ := h
  exact ⟨g, h2, h3, h5⟩
theorem hTx.kept {G : aw_G} {w w' : Nat → va_E} {a m : Nat} {s : List Nat} (h : hTx G w a m s) (h1 : w' a = w a) (h2 : w' (a + 1) = w (a + 1)) : hTx G w' a m s := by
  obtain ⟨g, e1, e2, e3⟩ := h
  exact ⟨g, h1.trans e1, h2.trans e2, e3⟩
theorem hTx.keep {G : aw_G} {w w' : Nat → va_E} {a m : Nat} {s : List Nat} {lo hi : Nat} (h : hTx G w a m s) (hf : fr lo hi w w') (h1 : a + 2 ≤ lo ∨ hi ≤ a) : hTx G w' a m s := h.kept (hf _ (by omega)) (hf _ (by omega))
theorem sl_app (g : Nat → Nat) (s n k : Nat) : sl g s (n + k) = sl g s n ++ sl g (s + n) k := by
  apply List.ext_getElem?
  intro i
  by_cases h1 : i < n
  · rw [sl_get (by omega), List.getElem?_append_left (by rw [sl_len]; exact h1), sl_get h1]
  · rw [List.getElem?_append_right (by rw [sl_len]; omega), sl_len]
    by_cases h2 : i < n + k
    · rw [sl_get h2, sl_get (by omega), show s + n + (i - n) = s + i by omega]
    · rw [List.getElem?_eq_none_iff.mpr (by rw [sl_len]; omega), List.getElem?_eq_none_iff.mpr (by rw [sl_len]; omega)]
theorem sl_take (g : Nat → Nat) (s n k : Nat) (h : k ≤ n) : (sl g s n).take k = sl g s k := by
  rw [show n = k + (n - k) by omega, sl_app, List.take_append_of_le_length (by rw [sl_len]; exact Nat.le_refl _), List.take_of_length_le (by rw [sl_len]; exact Nat.le_refl _)]
theorem sl_congr {g h : Nat → Nat} {s t n : Nat} (e : ∀ i, i < n → g (s + i) = h (t + i)) : sl g s n = sl h t n := sl_eq.mpr e
section
variable {G : aw_G} {nx d : Nat} {w : Nat → va_E}
theorem s_Tx_empty {a m : Nat} {s : List Nat} (ha : a < nx) (h : hTx G w a m s) : AC G y_Tx_empty b_Tx_empty 1 none d false [rf G a] nx w 0 0 (fun r w' nx' => r = none ∧ nx' = nx ∧ hTx G w' a m [] ∧ fr a (a + 2) w w') := by
  obtain ⟨g, h1, h2, h3, h4, h5⟩ := h
  refine (c_Tx_empty ha h1).weak ?_
  rintro r w' nx' ⟨rfl, rfl, rfl⟩
  exact ⟨rfl, rfl, ⟨g, aw_up_eq _ _ _, by rw [aw_up_ne _ _ (by omega)]; exact h2, rfl, Nat.zero_le _, h5⟩, (fr.refl _ _ _).up _ (by omega)⟩
theorem s_Tx_add {a m x : Nat} {s : List Nat} (ha : a + 1 < nx) (hm : m < 2 ^ 20) (hx : x < 65536) (h : hTx G w a m s) : AC G y_Tx_add b_Tx_add 2 (some .boolean) d false [rf G a, .int (nI x)] nx w 0 0 (fun r w' nx' => nx' = nx ∧ r = some (.int (nI (bN (decide (s.length < m))))) ∧ hTx G w' a m ((s ++ [x]).take m) ∧ fr a (a + 2) w w') := by
  have hh := h
  obtain ⟨g, h1, h2, h3, h4, h5⟩ := h
  refine (c_Tx_add (by omega) ha (by omega) (by omega) hx h4 h1 h2).weak ?_
  rintro r w' nx' ⟨rfl, ⟨q, rfl, rfl⟩ | ⟨q, rfl, rfl⟩⟩
  · refine ⟨rfl, by rw [decide_eq_true q]; rfl, ?_, ((fr.refl _ _ _).up _ (by omega)).up _ (by omega)⟩
    rw [List.take_of_length_le (by simp; omega)]
    refine ⟨aw_un g s.length x, ?_, ?_, ?_, by simp; omega, fun j => ?_⟩
    · rw [aw_up_eq]; simp
    · rw [aw_up_ne _ _ (by omega), aw_up_eq]
    · rw [List.length_append, List.length_singleton, sl_app]
      congr 1
      · conv => lhs; rw [h3]
        exact sl_congr (fun i hi => by rw [aw_un_ne _ _ (by omega)])
      · rw [sl_cons, sl_0, Nat.zero_add, aw_un_eq]
    · unfold aw_un; split
      · exact hx
      · exact h5 j
  · refine ⟨rfl, by rw [decide_eq_false (by omega)]; rfl, ?_, fr.refl _ _ _⟩
    rw [List.take_append_of_le_length q, List.take_of_length_le h4]
    exact hh
/-- addPart of the piece [u, v) of an array -/
theorem s_Tx_addPart {a m q l u v : Nat} {s : List Nat} {f : Nat → Nat} (ha : a + 1 < nx) (hq : q < nx) (hd : 1 ≤ d) (hm : m < 2 ^ 20) (hl : l < 2 ^ 20) (hst : u ≤ v) (htl : v ≤ l) (hf : ∀ j, f j < 65536) (h : hTx G w a m s) (h3 : w q = aCh G l f) : AC G y_Tx_addPart b_Tx_addPart 5 (some .boolean) d false [rf G a, rf G q, .int (nI u), .int (nI v)] nx w 0 0 (fun r w' nx' => nx' = nx ∧ r = some (.int (nI (bN (decide (s.length + (v - u) ≤ m))))) ∧ hTx G w' a m ((s ++ sl f u (v - u)).take m) ∧ fr a (a + 2) w w') := by
  have hh := h
  obtain ⟨g, h1, h2, h30, h4, h5⟩ := h
  refine (c_Tx_addPart (by omega) ha hq (by omega) hd hm hl h4 hst htl hf h1 h2 h3).weak ?_
  rintro r w' nx' ⟨rfl, rfl, rfl⟩
  refine ⟨rfl, rfl, ?_, ?_⟩
  · by_cases hk : min (v - u) (m - s.length) = 0
    · rw [if_pos hk]
      have e : (s ++ sl f u (v - u)).take m = s := by
        rcases (show v - u = 0 ∨ m = s.length by omega) with e | e
        · rw [e, sl_0, List.append_nil, List.take_of_length_le h4]
        · rw [e, List.take_append_of_le_length (Nat.le_refl _), List.take_of_length_le (Nat.le_refl _)]
      rw [e]
      exact hh
    · rw [if_neg hk]
      generalize hke : min (v - u) (m - s.length) = k at hk ⊢
      have e : (s ++ sl f u (v - u)).take m = s ++ sl f u k := by
        rw [List.take_append, List.take_of_length_le h4]
        congr 1
        rcases (show k = v - u ∧ v - u ≤ m - s.length ∨ k = m - s.length ∧ m - s.length ≤ v - u by omega) with ⟨e1, e2⟩ | ⟨e1, e2⟩
        · rw [List.take_of_length_le (by rw [sl_len]; exact e2), e1]
        · rw [sl_take _ _ _ _ e2, e1]
      rw [e]
      refine ⟨aw_cpn f g u s.length k, ?_, ?_, ?_, by rw [List.length_append, sl_len]; omega, fun j => ?_⟩
      · rw [tx_add, aw_up_eq, List.length_append, sl_len]
      · rw [tx_add, aw_up_ne _ _ (by omega), aw_up_eq]
      · rw [List.length_append, sl_len, sl_app]
        congr 1
        · conv => lhs; rw [h30]
          exact sl_congr (fun i hi => by rw [aw_cpn, if_neg (by omega)])
        · exact sl_congr (fun i hi => by rw [aw_cpn, if_pos (by omega)]; congr 1; omega)
      · unfold aw_cpn; split
        · exact hf _
        · exact h5 _
  · split
    · exact fr.refl _ _ _
    · exact ((fr.refl _ _ _).up _ (by omega)).up _ (by omega)
theorem s_Tx_hasRoomFor {a m a2 m2 : Nat} {s s2 : List Nat} (ha : a + 1 < nx) (ha2 : a2 + 1 < nx) (hm : m < 2 ^ 20) (hm2 : m2 < 2 ^ 20) (h : hTx G w a m s) (h2 : hTx G w a2 m2 s2) : AC G y_Tx_hasRoomFor b_Tx_hasRoomFor 2 (some .boolean) d false [rf G a, rf G a2] nx w 0 0 (fun r w' nx' => nx' = nx ∧ w' = w ∧ r = some (.int (nI (bN (decide (s.length + s2.length ≤ m)))))) := by
  obtain ⟨g, h1, h2', h3, h4, h5⟩ := h
  obtain ⟨g2, e1, e2, e3, e4, e5⟩ := h2
  exact c_Tx_hasRoomFor (by omega) (by omega) (by omega) (by omega) h4 (by omega) h1 h2' e1
theorem s_Tx_set {a m q l u v : Nat} {s : List Nat} {f : Nat → Nat} (ha : a + 1 < nx) (hq : q < nx) (haq : a ≠ q) (hd : 2 ≤ d) (hm : m < 2 ^ 20) (hl : l < 2 ^ 20) (hst : u ≤ v) (htl : v ≤ l) (hf : ∀ j, f j < 65536) (h : hTx G w a m s) (h3 : w q = aCh G l f) : AC G y_Tx_set b_Tx_set 4 none d false [rf G a, rf G q, .int (nI u), .int (nI v)] nx w 0 0 (fun r w' nx' => nx' = nx ∧ r = none ∧ hTx G w' a m ((sl f u (v - u)).take m) ∧ fr a (a + 2) w w') := by
  obtain ⟨g, h1, h2, h30, h4, h5⟩ := h
  refine (c_Tx_set (by omega) ha hq (by omega) haq hd hm hl hst htl hf h1 h2 h3).weak ?_
  rintro r w' nx' ⟨rfl, rfl, rfl⟩
  refine ⟨rfl, rfl, ?_, ((fr.refl _ _ _).up _ (by omega)).up _ (by omega)⟩
  generalize hke : min (v - u) m = k
  have e : (sl f u (v - u)).take m = sl f u k := by
    rcases (show k = v - u ∧ v - u ≤ m ∨ k = m ∧ m ≤ v - u by omega) with ⟨e1, e2⟩ | ⟨e1, e2⟩
    · rw [List.take_of_length_le (by rw [sl_len]; exact e2), e1]
    · rw [sl_take _ _ _ _ e2, e1]
  rw [e]
  refine ⟨aw_cpn f g u 0 k, ?_, ?_, ?_, by rw [sl_len]; omega, fun j => ?_⟩
  · rw [aw_up_eq, sl_len]
  · rw [aw_up_ne _ _ (by omega), aw_up_eq]
  · rw [sl_len]
    exact sl_congr (fun i hi => by rw [aw_cpn, if_pos (by omega)]; congr 1; omega)
  · unfold aw_cpn; split
    · exact hf _
    · exact h5 _
theorem s_Tx_isSame {a m q l u v : Nat} {s : List Nat} {f : Nat → Nat} (ha : a + 1 < nx) (hq : q < nx) (hm : m < 2 ^ 20) (hl : l < 2 ^ 20) (hst : u ≤ v) (htl : v ≤ l) (hf : ∀ j, f j < 65536) (h : hTx G w a m s) (h3 : w q = aCh G l f) : AC G y_Tx_isSame b_Tx_isSame 5 (some .boolean) d false [rf G a, rf G q, .int (nI u), .int (nI v)] nx w 0 0 (fun r w' nx' => nx' = nx ∧ w' = w ∧ r = some (.int (nI (bN (decide (s = sl f u (v - u))))))) := by
  obtain ⟨g, h1, h2, h30, h4, h5⟩ := h
  have := c_Tx_isSame (d := d) (by omega) ha hq hm hl h4 hst htl h5 hf h1 h2 h3
  rwa [← h30] at this
end
end
section
/-! RescanDesk$Rows, at its places (5 .. 14) -/
def y_Ro_init : MethodName := ⟨"RescanDesk$Rows", "<init>", "()V"⟩
abbrev b_Ro_init : ByteArray := prog_10_method_1_code
theorem d_Ro_init_0 : decode b_Ro_init 0 = .ok (.aload_n 0, 1) := by decide +kernel
theorem d_Ro_init_1 : decode b_Ro_init 1 = .ok (.invokespecial 3, 3) := by decide +kernel
theorem d_Ro_init_4 : decode b_Ro_init 4 = .ok (.aload_n 0, 1) := by decide +kernel
theorem d_Ro_init_5 : decode b_Ro_init 5 = .ok (.iconst 4, 1) := by decide +kernel
theorem d_Ro_init_6 : decode b_Ro_init 6 = .ok (.anewarray 9, 3) := by decide +kernel
theorem d_Ro_init_9 : decode b_Ro_init 9 = .ok (.putfield 11, 3) := by decide +kernel
theorem d_Ro_init_12 : decode b_Ro_init 12 = .ok (.iconst 0, 1) := by decide +kernel
theorem d_Ro_init_13 : decode b_Ro_init 13 = .ok (.istore_n 1, 1) := by decide +kernel
theorem d_Ro_init_14 : decode b_Ro_init 14 = .ok (.iload_n 1, 1) := by decide +kernel
theorem d_Ro_init_15 : decode b_Ro_init 15 = .ok (.iconst 4, 1) := by decide +kernel
theorem d_Ro_init_16 : decode b_Ro_init 16 = .ok (.if_icmp .ge 25, 3) := by decide +kernel
theorem d_Ro_init_19 : decode b_Ro_init 19 = .ok (.aload_n 0, 1) := by decide +kernel
theorem d_Ro_init_20 : decode b_Ro_init 20 = .ok (.getfield 11, 3) := by decide +kernel
theorem d_Ro_init_23 : decode b_Ro_init 23 = .ok (.iload_n 1, 1) := by decide +kernel
theorem d_Ro_init_24 : decode b_Ro_init 24 = .ok (.new 9, 3) := by decide +kernel
theorem d_Ro_init_27 : decode b_Ro_init 27 = .ok (.dup, 1) := by decide +kernel
theorem d_Ro_init_28 : decode b_Ro_init 28 = .ok (.sipush 300, 3) := by decide +kernel
theorem d_Ro_init_31 : decode b_Ro_init 31 = .ok (.invokespecial 17, 3) := by decide +kernel
theorem d_Ro_init_34 : decode b_Ro_init 34 = .ok (.aastore, 1) := by decide +kernel
theorem d_Ro_init_35 : decode b_Ro_init 35 = .ok (.iinc 1 1, 3) := by decide +kernel
theorem d_Ro_init_38 : decode b_Ro_init 38 = .ok (.goto (-24), 3) := by decide +kernel
theorem d_Ro_init_41 : decode b_Ro_init 41 = .ok (.aload_n 0, 1) := by decide +kernel
theorem d_Ro_init_42 : decode b_Ro_init 42 = .ok (.iconst 0, 1) := by decide +kernel
theorem d_Ro_init_43 : decode b_Ro_init 43 = .ok (.putfield 20, 3) := by decide +kernel
theorem d_Ro_init_46 : decode b_Ro_init 46 = .ok (.return_, 1) := by decide +kernel
theorem q_Ro_init : aw_q1 y_Ro_init b_Ro_init 2 none 0 := ⟨k_145, k_66, ⟨by decide, by decide, by decide +kernel⟩, by decide⟩
def y_Ro_begin : MethodName := ⟨"RescanDesk$Rows", "begin", "()V"⟩
abbrev b_Ro_begin : ByteArray := prog_10_method_2_code
theorem d_Ro_begin_0 : decode b_Ro_begin 0 = .ok (.iconst 0, 1) := by decide +kernel
theorem d_Ro_begin_1 : decode b_Ro_begin 1 = .ok (.istore_n 1, 1) := by decide +kernel
theorem d_Ro_begin_2 : decode b_Ro_begin 2 = .ok (.iload_n 1, 1) := by decide +kernel
theorem d_Ro_begin_3 : decode b_Ro_begin 3 = .ok (.iconst 4, 1) := by decide +kernel
theorem d_Ro_begin_4 : decode b_Ro_begin 4 = .ok (.if_icmp .ge 18, 3) := by decide +kernel
theorem d_Ro_begin_7 : decode b_Ro_begin 7 = .ok (.aload_n 0, 1) := by decide +kernel
theorem d_Ro_begin_8 : decode b_Ro_begin 8 = .ok (.getfield 11, 3) := by decide +kernel
theorem d_Ro_begin_11 : decode b_Ro_begin 11 = .ok (.iload_n 1, 1) := by decide +kernel
theorem d_Ro_begin_12 : decode b_Ro_begin 12 = .ok (.aaload, 1) := by decide +kernel
theorem d_Ro_begin_13 : decode b_Ro_begin 13 = .ok (.invokevirtual 24, 3) := by decide +kernel
theorem d_Ro_begin_16 : decode b_Ro_begin 16 = .ok (.iinc 1 1, 3) := by decide +kernel
theorem d_Ro_begin_19 : decode b_Ro_begin 19 = .ok (.goto (-17), 3) := by decide +kernel
theorem d_Ro_begin_22 : decode b_Ro_begin 22 = .ok (.aload_n 0, 1) := by decide +kernel
theorem d_Ro_begin_23 : decode b_Ro_begin 23 = .ok (.iconst 0, 1) := by decide +kernel
theorem d_Ro_begin_24 : decode b_Ro_begin 24 = .ok (.putfield 20, 3) := by decide +kernel
theorem d_Ro_begin_27 : decode b_Ro_begin 27 = .ok (.return_, 1) := by decide +kernel
theorem q_Ro_begin : aw_q1 y_Ro_begin b_Ro_begin 2 none 0 := ⟨k_515, k_66, ⟨by decide, by decide, by decide +kernel⟩, by decide⟩
def y_Ro_presentRow : MethodName := ⟨"RescanDesk$Rows", "presentRow", "()LRescanDesk$Text;"⟩
abbrev b_Ro_presentRow : ByteArray := prog_10_method_3_code
theorem d_Ro_presentRow_0 : decode b_Ro_presentRow 0 = .ok (.aload_n 0, 1) := by decide +kernel
theorem d_Ro_presentRow_1 : decode b_Ro_presentRow 1 = .ok (.getfield 20, 3) := by decide +kernel
theorem d_Ro_presentRow_4 : decode b_Ro_presentRow 4 = .ok (.iconst (-1), 1) := by decide +kernel
theorem d_Ro_presentRow_5 : decode b_Ro_presentRow 5 = .ok (.if_icmp .ne 7, 3) := by decide +kernel
theorem d_Ro_presentRow_8 : decode b_Ro_presentRow 8 = .ok (.aconst_null, 1) := by decide +kernel
theorem d_Ro_presentRow_9 : decode b_Ro_presentRow 9 = .ok (.goto 12, 3) := by decide +kernel
theorem d_Ro_presentRow_12 : decode b_Ro_presentRow 12 = .ok (.aload_n 0, 1) := by decide +kernel
theorem d_Ro_presentRow_13 : decode b_Ro_presentRow 13 = .ok (.getfield 11, 3) := by decide +kernel
theorem d_Ro_presentRow_16 : decode b_Ro_presentRow 16 = .ok (.aload_n 0, 1) := by decide +kernel
theorem d_Ro_presentRow_17 : decode b_Ro_presentRow 17 = .ok (.getfield 20, 3) := by decide +kernel
theorem d_Ro_presentRow_20 : decode b_Ro_presentRow 20 = .ok (.aaload, 1) := by decide +kernel
theorem d_Ro_presentRow_21 : decode b_Ro_presentRow 21 = .ok (.areturn, 1) := by decide +kernel
theorem q_Ro_presentRow : aw_q1 y_Ro_presentRow b_Ro_presentRow 1 (some (.object "RescanDesk$Text")) 0 := ⟨k_545, k_66, ⟨by decide, by decide, by decide +kernel⟩, by decide⟩
def y_Ro_choose : MethodName := ⟨"RescanDesk$Rows", "choose", "(J)V"⟩
abbrev b_Ro_choose : ByteArray := prog_10_method_4_code
theorem d_Ro_choose_0 : decode b_Ro_choose 0 = .ok (.aload_n 0, 1) := by decide +kernel
theorem d_Ro_choose_1 : decode b_Ro_choose 1 = .ok (.lload_n 1, 1) := by decide +kernel
theorem d_Ro_choose_2 : decode b_Ro_choose 2 = .ok (.lconst 0, 1) := by decide +kernel
theorem d_Ro_choose_3 : decode b_Ro_choose 3 = .ok (.lcmp, 1) := by decide +kernel
theorem d_Ro_choose_4 : decode b_Ro_choose 4 = .ok (.ifCond .lt 16, 3) := by decide +kernel
theorem d_Ro_choose_7 : decode b_Ro_choose 7 = .ok (.lload_n 1, 1) := by decide +kernel
theorem d_Ro_choose_8 : decode b_Ro_choose 8 = .ok (.ldc2_w 27, 3) := by decide +kernel
theorem d_Ro_choose_11 : decode b_Ro_choose 11 = .ok (.lcmp, 1) := by decide +kernel
theorem d_Ro_choose_12 : decode b_Ro_choose 12 = .ok (.ifCond .ge 8, 3) := by decide +kernel
theorem d_Ro_choose_15 : decode b_Ro_choose 15 = .ok (.lload_n 1, 1) := by decide +kernel
theorem d_Ro_choose_16 : decode b_Ro_choose 16 = .ok (.l2i, 1) := by decide +kernel
theorem d_Ro_choose_17 : decode b_Ro_choose 17 = .ok (.goto 4, 3) := by decide +kernel
theorem d_Ro_choose_20 : decode b_Ro_choose 20 = .ok (.iconst (-1), 1) := by decide +kernel
theorem d_Ro_choose_21 : decode b_Ro_choose 21 = .ok (.putfield 20, 3) := by decide +kernel
theorem d_Ro_choose_24 : decode b_Ro_choose 24 = .ok (.return_, 1) := by decide +kernel
theorem q_Ro_choose : aw_q1 y_Ro_choose b_Ro_choose 3 none 1 := ⟨k_710, k_66, ⟨by decide, by decide, by decide +kernel⟩, by decide⟩
def y_Ro_pour : MethodName := ⟨"RescanDesk$Rows", "pour", "(II)Z"⟩
abbrev b_Ro_pour : ByteArray := prog_10_method_5_code
theorem d_Ro_pour_0 : decode b_Ro_pour 0 = .ok (.iload_n 1, 1) := by decide +kernel
theorem d_Ro_pour_1 : decode b_Ro_pour 1 = .ok (.iload_n 2, 1) := by decide +kernel
theorem d_Ro_pour_2 : decode b_Ro_pour 2 = .ok (.if_icmp .ne 5, 3) := by decide +kernel
theorem d_Ro_pour_5 : decode b_Ro_pour 5 = .ok (.iconst 1, 1) := by decide +kernel
theorem d_Ro_pour_6 : decode b_Ro_pour 6 = .ok (.ireturn, 1) := by decide +kernel
theorem d_Ro_pour_7 : decode b_Ro_pour 7 = .ok (.aload_n 0, 1) := by decide +kernel
theorem d_Ro_pour_8 : decode b_Ro_pour 8 = .ok (.getfield 11, 3) := by decide +kernel
theorem d_Ro_pour_11 : decode b_Ro_pour 11 = .ok (.iload_n 1, 1) := by decide +kernel
theorem d_Ro_pour_12 : decode b_Ro_pour 12 = .ok (.aaload, 1) := by decide +kernel
theorem d_Ro_pour_13 : decode b_Ro_pour 13 = .ok (.astore_n 3, 1) := by decide +kernel
theorem d_Ro_pour_14 : decode b_Ro_pour 14 = .ok (.iload_n 2, 1) := by decide +kernel
theorem d_Ro_pour_15 : decode b_Ro_pour 15 = .ok (.iconst (-1), 1) := by decide +kernel
theorem d_Ro_pour_16 : decode b_Ro_pour 16 = .ok (.if_icmp .eq 37, 3) := by decide +kernel
theorem d_Ro_pour_19 : decode b_Ro_pour 19 = .ok (.aload_n 0, 1) := by decide +kernel
theorem d_Ro_pour_20 : decode b_Ro_pour 20 = .ok (.getfield 11, 3) := by decide +kernel
theorem d_Ro_pour_23 : decode b_Ro_pour 23 = .ok (.iload_n 2, 1) := by decide +kernel
theorem d_Ro_pour_24 : decode b_Ro_pour 24 = .ok (.aaload, 1) := by decide +kernel
theorem d_Ro_pour_25 : decode b_Ro_pour 25 = .ok (.aload_n 3, 1) := by decide +kernel
theorem d_Ro_pour_26 : decode b_Ro_pour 26 = .ok (.invokevirtual 29, 3) := by decide +kernel
theorem d_Ro_pour_29 : decode b_Ro_pour 29 = .ok (.ifCond .ne 5, 3) := by decide +kernel
theorem d_Ro_pour_32 : decode b_Ro_pour 32 = .ok (.iconst 0, 1) := by decide +kernel
theorem d_Ro_pour_33 : decode b_Ro_pour 33 = .ok (.ireturn, 1) := by decide +kernel
theorem d_Ro_pour_34 : decode b_Ro_pour 34 = .ok (.aload_n 0, 1) := by decide +kernel
theorem d_Ro_pour_35 : decode b_Ro_pour 35 = .ok (.getfield 11, 3) := by decide +kernel
theorem d_Ro_pour_38 : decode b_Ro_pour 38 = .ok (.iload_n 2, 1) := by decide +kernel
theorem d_Ro_pour_39 : decode b_Ro_pour 39 = .ok (.aaload, 1) := by decide +kernel
theorem d_Ro_pour_40 : decode b_Ro_pour 40 = .ok (.aload_n 3, 1) := by decide +kernel
theorem d_Ro_pour_41 : decode b_Ro_pour 41 = .ok (.getfield 33, 3) := by decide +kernel
theorem d_Ro_pour_44 : decode b_Ro_pour 44 = .ok (.iconst 0, 1) := by decide +kernel
theorem d_Ro_pour_45 : decode b_Ro_pour 45 = .ok (.aload_n 3, 1) := by decide +kernel
theorem d_Ro_pour_46 : decode b_Ro_pour 46 = .ok (.getfield 37, 3) := by decide +kernel
theorem d_Ro_pour_49 : decode b_Ro_pour 49 = .ok (.invokevirtual 40, 3) := by decide +kernel
theorem d_Ro_pour_52 : decode b_Ro_pour 52 = .ok (.pop, 1) := by decide +kernel
theorem d_Ro_pour_53 : decode b_Ro_pour 53 = .ok (.aload_n 3, 1) := by decide +kernel
theorem d_Ro_pour_54 : decode b_Ro_pour 54 = .ok (.invokevirtual 24, 3) := by decide +kernel
theorem d_Ro_pour_57 : decode b_Ro_pour 57 = .ok (.iconst 1, 1) := by decide +kernel
theorem d_Ro_pour_58 : decode b_Ro_pour 58 = .ok (.ireturn, 1) := by decide +kernel
theorem q_Ro_pour : aw_q1 y_Ro_pour b_Ro_pour 4 (some .boolean) 2 := ⟨k_723, k_66, ⟨by decide, by decide, by decide +kernel⟩, by decide⟩
def y_Ro_pourAll : MethodName := ⟨"RescanDesk$Rows", "pourAll", "(I)Z"⟩
abbrev b_Ro_pourAll : ByteArray := prog_10_method_6_code
theorem d_Ro_pourAll_0 : decode b_Ro_pourAll 0 = .ok (.iconst 1, 1) := by decide +kernel
theorem d_Ro_pourAll_1 : decode b_Ro_pourAll 1 = .ok (.istore_n 2, 1) := by decide +kernel
theorem d_Ro_pourAll_2 : decode b_Ro_pourAll 2 = .ok (.iload_n 2, 1) := by decide +kernel
theorem d_Ro_pourAll_3 : decode b_Ro_pourAll 3 = .ok (.iconst 4, 1) := by decide +kernel
theorem d_Ro_pourAll_4 : decode b_Ro_pourAll 4 = .ok (.if_icmp .ge 20, 3) := by decide +kernel
theorem d_Ro_pourAll_7 : decode b_Ro_pourAll 7 = .ok (.aload_n 0, 1) := by decide +kernel
theorem d_Ro_pourAll_8 : decode b_Ro_pourAll 8 = .ok (.iload_n 2, 1) := by decide +kernel
theorem d_Ro_pourAll_9 : decode b_Ro_pourAll 9 = .ok (.iload_n 1, 1) := by decide +kernel
theorem d_Ro_pourAll_10 : decode b_Ro_pourAll 10 = .ok (.invokevirtual 44, 3) := by decide +kernel
theorem d_Ro_pourAll_13 : decode b_Ro_pourAll 13 = .ok (.ifCond .ne 5, 3) := by decide +kernel
theorem d_Ro_pourAll_16 : decode b_Ro_pourAll 16 = .ok (.iconst 0, 1) := by decide +kernel
theorem d_Ro_pourAll_17 : decode b_Ro_pourAll 17 = .ok (.ireturn, 1) := by decide +kernel
theorem d_Ro_pourAll_18 : decode b_Ro_pourAll 18 = .ok (.iinc 2 1, 3) := by decide +kernel
theorem d_Ro_pourAll_21 : decode b_Ro_pourAll 21 = .ok (.goto (-19), 3) := by decide +kernel
theorem d_Ro_pourAll_24 : decode b_Ro_pourAll 24 = .ok (.iconst 1, 1) := by decide +kernel
theorem d_Ro_pourAll_25 : decode b_Ro_pourAll 25 = .ok (.ireturn, 1) := by decide +kernel
theorem q_Ro_pourAll : aw_q1 y_Ro_pourAll b_Ro_pourAll 3 (some .boolean) 1 := ⟨k_719, k_66, ⟨by decide, by decide, by decide +kernel⟩, by decide⟩
def y_Ro_join : MethodName := ⟨"RescanDesk$Rows", "join", "()Z"⟩
abbrev b_Ro_join : ByteArray := prog_10_method_7_code
theorem d_Ro_join_0 : decode b_Ro_join 0 = .ok (.aload_n 0, 1) := by decide +kernel
theorem d_Ro_join_1 : decode b_Ro_join 1 = .ok (.iconst 0, 1) := by decide +kernel
theorem d_Ro_join_2 : decode b_Ro_join 2 = .ok (.invokevirtual 48, 3) := by decide +kernel
theorem d_Ro_join_5 : decode b_Ro_join 5 = .ok (.ifCond .ne 5, 3) := by decide +kernel
theorem d_Ro_join_8 : decode b_Ro_join 8 = .ok (.iconst 0, 1) := by decide +kernel
theorem d_Ro_join_9 : decode b_Ro_join 9 = .ok (.ireturn, 1) := by decide +kernel
theorem d_Ro_join_10 : decode b_Ro_join 10 = .ok (.aload_n 0, 1) := by decide +kernel
theorem d_Ro_join_11 : decode b_Ro_join 11 = .ok (.iconst 0, 1) := by decide +kernel
theorem d_Ro_join_12 : decode b_Ro_join 12 = .ok (.putfield 20, 3) := by decide +kernel
theorem d_Ro_join_15 : decode b_Ro_join 15 = .ok (.iconst 1, 1) := by decide +kernel
theorem d_Ro_join_16 : decode b_Ro_join 16 = .ok (.ireturn, 1) := by decide +kernel
theorem q_Ro_join : aw_q1 y_Ro_join b_Ro_join 1 (some .boolean) 0 := ⟨k_811, k_66, ⟨by decide, by decide, by decide +kernel⟩, by decide⟩
/-- the present row: none, or its number -/
def pV (p : Option Nat) : Int32 := match p with
  | none => -1
  | some k => nI k
def upR (R : Nat → List Nat) (k : Nat) (s : List Nat) : Nat → List Nat := fun j => if j = k then s else R j
theorem upR_eq (R : Nat → List Nat) (k : Nat) (s : List Nat) : upR R k s k = s := if_pos rfl
theorem upR_ne (R : Nat → List Nat) {k j : Nat} (s : List Nat) (h : j ≠ k) : upR R k s j = R j := if_neg h
def hRo (G : aw_G) (w : Nat → va_E) (p : Option Nat) (R : Nat → List Nat) : Prop := w 5 = aObj 3 [rf G 6, .int (pV p)] ∧ (∃ f : Nat → Option Nat, w 6 = aRefs (G.2.2.2.1 4) 4 f ∧ ∀ r, r < 4 → f r = some (G.2.2.1 + (7 + 2 * r))) ∧ (∀ r, r < 4 → hTx G w (7 + 2 * r) 300 (R r)) ∧ ∀ k, p = some k → k < 4
theorem hRo.keep {G : aw_G} {w w' : Nat → va_E} {p : Option Nat} {R : Nat → List Nat} {lo hi : Nat} (h : hRo G w p R) (hf : fr lo hi w w') (hl : hi ≤ 5 ∨ 15 ≤ lo) : hRo G w' p R := by
  obtain ⟨h1, ⟨f, h2, h3⟩, h4, h5⟩ := h
  exact ⟨(hf 5 (by omega)).trans h1, ⟨f, (hf 6 (by omega)).trans h2, h3⟩, fun r hr => (h4 r hr).keep hf (by omega), h5⟩
/-- one row of them has got another text -/
theorem hRo.row {G : aw_G} {w w' : Nat → va_E} {p : Option Nat} {R : Nat → List Nat} {k : Nat} {s : List Nat} (h : hRo G w p R) (hk : k < 4) (ht : hTx G w' (7 + 2 * k) 300 s) (hf : fr (7 + 2 * k) (7 + 2 * k + 2) w w') : hRo G w' p (upR R k s) := by
  obtain ⟨h1, ⟨f, h2, h3⟩, h4, h5⟩ := h
  refine ⟨(hf 5 (by omega)).trans h1, ⟨f, (hf 6 (by omega)).trans h2, h3⟩, fun r hr => ?_, h5⟩
  by_cases e : r = k
  · subst e; rw [upR_eq]; exact ht
  · rw [upR_ne _ _ e]; exact (h4 r hr).keep hf (by omega)
theorem hRo.len {G : aw_G} {w : Nat → va_E} {p : Option Nat} {R : Nat → List Nat} (h : hRo G w p R) {r : Nat} (hr : r < 4) : (R r).length ≤ 300 := (h.2.2.1 r hr).le
theorem hRo.congr {G : aw_G} {w : Nat → va_E} {p : Option Nat} {R R' : Nat → List Nat} (h : hRo G w p R) (e : ∀ r, r < 4 → R r = R' r) : hRo G w p R' := ⟨h.1, h.2.1, fun r hr => by rw [← e r hr]; exact h.2.2.1 r hr, h.2.2.2⟩
/-- a row poured behind another, or away -/
def pourS (R : Nat → List Nat) (f : Nat) (t : Option Nat) : Bool × (Nat → List Nat) := match t with
  | none => (true, upR R f [])
  | some k => if k = f then (true, R) else if (R k).length + (R f).length ≤ 300 then (true, upR (upR R k (R k ++ R f)) f []) else (false, R)
def pourAllS (R : Nat → List Nat) (t : Option Nat) : Bool × (Nat → List Nat) :=
  if (pourS R 1 t).1 = true then (if (pourS (pourS R 1 t).2 2 t).1 = true then pourS (pourS (pourS R 1 t).2 2 t).2 3 t else pourS (pourS R 1 t).2 2 t) else pourS R 1 t
def chS (v : Int64) : Option Nat := if 0 ≤ v ∧ v < 4 then some v.toInt.toNat else none
section
variable {G : aw_G} {nx d : Nat} {w : Nat → va_E}
theorem s_Ro_begin {p : Option Nat} {R : Nat → List Nat} (hnx : 15 ≤ nx) (hd : 1 ≤ d) (h : hRo G w p R) : AC G y_Ro_begin b_Ro_begin 2 none d false [rf G 5] nx w 0 0 (fun r w' nx' => nx' = nx ∧ r = none ∧ hRo G w' (some 0) (fun _ => []) ∧ fr 5 15 w w') := by
  refine AC.ofW (by decide) (Nat.le_of_ble_eq_true rfl) ?_
  intro E P hP Y X
  have X : aw_X G "RescanDesk$Rows" b_Ro_begin 2 none "begin" _ _ _ _ _ E := X
  refine AW.eql (lv' := [(0, _)]) (by rfl) ?_
  have L : ∀ (k i : Nat) (w1 : Nat → va_E) (R1 : Nat → List Nat), i + k = 4 → hRo G w1 p R1 → fr 5 15 w w1 → (∀ j, j < i → R1 j = []) → AW G E 2 nx 0 0 w1 2 [(1, .int (nI i)), (0, rf G 5)] [] := by
    intro k
    induction k with
    | zero =>
      intro i w1 R1 hi h1 hf hj
      obtain ⟨g1, ⟨f, g2, g3⟩, g4, g5⟩ := h1
      refine aw_iload_n (pc := 2) X d_Ro_begin_2 (by rfl) ?_
      refine aw_iconstN (pc := 3) X 4 d_Ro_begin_3 (by decide) ?_
      refine aw_icmp_geN (pc := 4) X (tgt := 22) d_Ro_begin_4 (by rfl) (by omega) (by omega) (fun h4 => ?_) (fun h4 => ?_)
      -- br 4 lv=1:n,0:r st=
      · refine aw_aload_nR (pc := 22) X d_Ro_begin_22 (by rfl) ?_
        refine aw_iconstN (pc := 23) X 0 d_Ro_begin_23 (by decide) ?_
        refine aw_putO (pc := 24) X _ 1 (by omega) (by (repeat (first | rw [aw_up_eq] | rw [aw_up_ne _ _ (by first | assumption | omega)])) <;> first | assumption | rfl) (by rfl) in_Ro (by decide) ty_Ro ok_Ro nm_Ro k_152 (by rfl) (by rfl) (by rfl) (by simp) (fs' := [_, _]) (by rfl) d_Ro_begin_24 ?_
        refine aw_vret Y X rfl d_Ro_begin_27 (by omega) (by omega) (hP _ _ _ ?_)
        -- ret 27 lv=1:n,0:r st=
        refine ⟨rfl, rfl, ⟨aw_up_eq _ _ _, ⟨f, by rw [aw_up_ne _ _ (by omega)]; exact g2, g3⟩, fun r hr => ?_, fun k e => by cases e; omega⟩, hf.up _ (by omega)⟩
        have := g4 r hr
        rw [hj r (by omega)] at this
        exact this.kept (by rw [aw_up_ne _ _ (by omega)]) (by rw [aw_up_ne _ _ (by omega)])
      · omega
    | succ k ih =>
      intro i w1 R1 hi h1 hf hj
      have h10 := h1
      obtain ⟨g1, ⟨f, g2, g3⟩, g4, g5⟩ := h1
      have g3i := g3 i (by omega)
      refine aw_iload_n (pc := 2) X d_Ro_begin_2 (by rfl) ?_
      refine aw_iconstN (pc := 3) X 4 d_Ro_begin_3 (by decide) ?_
      refine aw_icmp_geN (pc := 4) X (tgt := 22) d_Ro_begin_4 (by rfl) (by omega) (by omega) (fun h4 => ?_) (fun h4 => ?_)
      -- br 4 lv=1:n,0:r st=
      · omega
      · refine aw_aload_nR (pc := 7) X d_Ro_begin_7 (by rfl) ?_
        refine aw_getO (pc := 8) X _ 0 (by omega) (by (repeat (first | rw [aw_up_eq] | rw [aw_up_ne _ _ (by first | assumption | omega)])) <;> first | assumption | rfl) (by rfl) in_Ro (by decide) k_150 (by rfl) d_Ro_begin_8 ?_
        refine aw_iload_n (pc := 11) X d_Ro_begin_11 (by rfl) ?_
        refine aw_aaldN (pc := 12) X _ 4 (by omega) (by (repeat (first | rw [aw_up_eq] | rw [aw_up_ne _ _ (by first | assumption | omega)])) <;> first | assumption | rfl) (by rfl) (by omega) (by omega) (by assumption) d_Ro_begin_12 ?_
        -- invokevirtual 13 lv=1:n,0:r st=r
        refine aw_callV (pc := 13) X _ (s_Tx_empty (d := 0) (a := 7 + 2 * i) (by omega) (g4 i (by omega))) q_Tx_empty k_516 k_196 k_197 (by omega) (by obtain ⟨g9, e9, -⟩ := g4 i (by omega); exact e9) (by rfl) d_Ro_begin_13 (by omega) (Nat.le_of_ble_eq_true rfl) ⟨by omega, by omega⟩ (fun h => by cases h) (fun r w' nx' hp => ?_)
        obtain ⟨rfl, rfl, ht, hf2⟩ := hp
        refine aw_iincN (pc := 16) X 1 (lv' := [(1, _), (0, _)]) d_Ro_begin_16 (by rfl) (by decide) (by decide) (by rfl) ?_
        refine aw_goto (pc := 19) X (tgt := 2) d_Ro_begin_19 (by rfl) ?_
        -- stop 2 lv=1:n,0:r st=
        exact ih (i + 1) _ _ (by omega) (h10.row (by omega) ht hf2) (hf.trans (hf2.mono (by omega) (by omega))) (fun j hj' => by
          by_cases e : j = i
          · subst e; exact upR_eq _ _ _
          · rw [upR_ne _ _ e]; exact hj j (by omega))
  refine aw_iconstN (pc := 0) X 0 d_Ro_begin_0 (by decide) ?_
  refine aw_istore_n (pc := 1) X (lv' := [(1, _), (0, _)]) d_Ro_begin_1 (by decide) (by rfl) ?_
  -- stop 2 lv=1:n,0:r st=
  exact L 4 0 w R (by omega) h (fr.refl _ _ _) (fun j hj => absurd hj (by omega))
theorem s_Ro_presentRow {p : Option Nat} {R : Nat → List Nat} (hnx : 15 ≤ nx) (h : hRo G w p R) : AC G y_Ro_presentRow b_Ro_presentRow 1 (some (.object "RescanDesk$Text")) d false [rf G 5] nx w 0 0 (fun r w' nx' => nx' = nx ∧ w' = w ∧ r = some (match p with | none => .null | some k => rf G (7 + 2 * k))) := by
  obtain ⟨g1, ⟨f, g2, g3⟩, g4, g5⟩ := h
  refine AC.ofW (by decide) (Nat.le_of_ble_eq_true rfl) ?_
  intro E P hP Y X
  have X : aw_X G "RescanDesk$Rows" b_Ro_presentRow 1 (some (.object "RescanDesk$Text")) "presentRow" _ _ _ _ _ E := X
  refine AW.eql (lv' := [(0, _)]) (by rfl) ?_
  cases p with
  | none =>
    refine aw_aload_nR (pc := 0) X d_Ro_presentRow_0 (by rfl) ?_
    refine aw_getO (pc := 1) X _ 1 (by omega) (by (repeat (first | rw [aw_up_eq] | rw [aw_up_ne _ _ (by first | assumption | omega)])) <;> first | assumption | rfl) (by rfl) in_Ro (by decide) k_152 (by rfl) d_Ro_presentRow_1 ?_
    refine aw_iconst (pc := 4) X (v := -1) d_Ro_presentRow_4 (by decide) ?_
    refine aw_icmp_ne (pc := 5) X (tgt := 12) d_Ro_presentRow_5 (by rfl) (fun h5 => ?_) (fun h5 => ?_)
    -- br 5 lv=0:r st=
    · exact absurd rfl h5
    · refine aw_null (pc := 8) X d_Ro_presentRow_8 ?_
      refine aw_goto (pc := 9) X (tgt := 21) d_Ro_presentRow_9 (by rfl) ?_
      refine aw_aret Y X rfl (Or.inl rfl) d_Ro_presentRow_21 (by omega) (by omega) (hP _ _ _ ?_)
      -- ret 21 lv=0:r st=0
      exact ⟨rfl, rfl, rfl⟩
  | some k =>
    have hk := g5 k rfl
    have g3k := g3 k hk
    have g1' : w 5 = aObj 3 [rf G 6, .int (nI k)] := g1
    refine aw_aload_nR (pc := 0) X d_Ro_presentRow_0 (by rfl) ?_
    refine aw_getO (pc := 1) X _ 1 (by omega) (by (repeat (first | rw [aw_up_eq] | rw [aw_up_ne _ _ (by first | assumption | omega)])) <;> first | assumption | rfl) (by rfl) in_Ro (by decide) k_152 (by rfl) d_Ro_presentRow_1 ?_
    refine aw_iconst (pc := 4) X (v := -1) d_Ro_presentRow_4 (by decide) ?_
    refine aw_icmp_ne (pc := 5) X (tgt := 12) d_Ro_presentRow_5 (by rfl) (fun h5 => ?_) (fun h5 => ?_)
    -- br 5 lv=0:r st=
    · refine aw_aload_nR (pc := 12) X d_Ro_presentRow_12 (by rfl) ?_
      refine aw_getO (pc := 13) X _ 0 (by omega) (by (repeat (first | rw [aw_up_eq] | rw [aw_up_ne _ _ (by first | assumption | omega)])) <;> first | assumption | rfl) (by rfl) in_Ro (by decide) k_150 (by rfl) d_Ro_presentRow_13 ?_
      refine aw_aload_nR (pc := 16) X d_Ro_presentRow_16 (by rfl) ?_
      refine aw_getO (pc := 17) X _ 1 (by omega) (by (repeat (first | rw [aw_up_eq] | rw [aw_up_ne _ _ (by first | assumption | omega)])) <;> first | assumption | rfl) (by rfl) in_Ro (by decide) k_152 (by rfl) d_Ro_presentRow_17 ?_
      -- stop 20 lv=0:r st=i,r
      refine AW.of rfl rfl rfl rfl rfl (rest' := [.int (nI k), rf G 6]) rfl ?_
      refine aw_aaldN (pc := 20) X _ 4 (by omega) (by (repeat (first | rw [aw_up_eq] | rw [aw_up_ne _ _ (by first | assumption | omega)])) <;> first | assumption | rfl) (by rfl) (by omega) (by omega) (by assumption) d_Ro_presentRow_20 ?_
      refine aw_aret Y X rfl (Or.inr ⟨_, rfl⟩) d_Ro_presentRow_21 (by omega) (by omega) (hP _ _ _ ?_)
      -- ret 21 lv=0:r st=r
      exact ⟨rfl, rfl, rfl⟩
    · exact absurd h5 (by rcases (show k = 0 ∨ k = 1 ∨ k = 2 ∨ k = 3 by omega) with rfl | rfl | rfl | rfl <;> decide)
theorem s_Ro_choose {p : Option Nat} {R : Nat → List Nat} {v : Int64} (hnx : 15 ≤ nx) (h : hRo G w p R) : AC G y_Ro_choose b_Ro_choose 3 none d false [rf G 5, .long v] nx w 0 0 (fun r w' nx' => nx' = nx ∧ r = none ∧ hRo G w' (chS v) R ∧ fr 5 15 w w') := by
  have h0 := h
  obtain ⟨g1, ⟨f, g2, g3⟩, g4, g5⟩ := h
  have fin : ∀ p', (∀ k, p' = some k → k < 4) → hRo G (aw_up w 5 (aObj 3 [rf G 6, .int (pV p')])) p' R := fun p' hp' =>
    ⟨aw_up_eq _ _ _, ⟨f, by rw [aw_up_ne _ _ (by omega)]; exact g2, g3⟩, fun r hr => (g4 r hr).kept (by rw [aw_up_ne _ _ (by omega)]) (by rw [aw_up_ne _ _ (by omega)]), hp'⟩
  have c0 : ∀ x y : Int64, lg_cmp x y < 0 ↔ x < y := fun x y => by
    unfold lg_cmp
    by_cases h1 : y < x
    · simp only [h1, if_true]
      exact ⟨fun q => absurd q (by decide), fun q => (Int64.lt_irrefl (Int64.lt_trans h1 q)).elim⟩
    · by_cases h2 : x = y
      · subst h2; simp [Int64.lt_irrefl]
      · simp only [h1, h2, if_false]
        exact ⟨fun _ => Int64.lt_of_le_of_ne (Int64.not_lt.mp h1) h2, fun _ => by decide⟩
  refine AC.ofW (by decide) (Nat.le_of_ble_eq_true rfl) ?_
  intro E P hP Y X
  have X : aw_X G "RescanDesk$Rows" b_Ro_choose 3 none "choose" _ _ _ _ _ E := X
  refine AW.eql (lv' := [(0, _), (1, _)]) (by rfl) ?_
  refine aw_aload_nR (pc := 0) X d_Ro_choose_0 (by rfl) ?_
  refine aw_lload_n (pc := 1) X d_Ro_choose_1 (by rfl) ?_
  refine aw_lconst (pc := 2) X (v := 0) d_Ro_choose_2 (by decide) ?_
  refine aw_lcmp (pc := 3) X d_Ro_choose_3 ?_
  refine aw_if_lt (pc := 4) X (tgt := 20) d_Ro_choose_4 (by rfl) (fun h4 => ?_) (fun h4 => ?_)
  -- br 4 lv=0:r,1:l st=r
  · refine aw_iconst (pc := 20) X (v := -1) d_Ro_choose_20 (by decide) ?_
    refine aw_putO (pc := 21) X _ 1 (by omega) (by (repeat (first | rw [aw_up_eq] | rw [aw_up_ne _ _ (by first | assumption | omega)])) <;> first | assumption | rfl) (by rfl) in_Ro (by decide) ty_Ro ok_Ro nm_Ro k_152 (by rfl) (by rfl) (by rfl) (by simp) (fs' := [_, _]) (by rfl) d_Ro_choose_21 ?_
    refine aw_vret Y X rfl d_Ro_choose_24 (by omega) (by omega) (hP _ _ _ ?_)
    -- ret 24 lv=0:r,1:l st=
    refine ⟨rfl, rfl, ?_, (fr.refl _ _ _).up _ (by omega)⟩
    rw [chS, if_neg (fun q => absurd ((c0 _ _).mp h4) (Int64.not_lt.mpr q.1))]
    exact fin none (fun k e => by cases e)
  · refine aw_lload_n (pc := 7) X d_Ro_choose_7 (by rfl) ?_
    refine aw_ldc2 (pc := 8) X k_711 d_Ro_choose_8 ?_
    refine aw_lcmp (pc := 11) X d_Ro_choose_11 ?_
    refine aw_if_ge (pc := 12) X (tgt := 20) d_Ro_choose_12 (by rfl) (fun h12 => ?_) (fun h12 => ?_)
    -- br 12 lv=0:r,1:l st=r
    · refine aw_iconst (pc := 20) X (v := -1) d_Ro_choose_20 (by decide) ?_
      refine aw_putO (pc := 21) X _ 1 (by omega) (by (repeat (first | rw [aw_up_eq] | rw [aw_up_ne _ _ (by first | assumption | omega)])) <;> first | assumption | rfl) (by rfl) in_Ro (by decide) ty_Ro ok_Ro nm_Ro k_152 (by rfl) (by rfl) (by rfl) (by simp) (fs' := [_, _]) (by rfl) d_Ro_choose_21 ?_
      refine aw_vret Y X rfl d_Ro_choose_24 (by omega) (by omega) (hP _ _ _ ?_)
      -- ret 24 lv=0:r,1:l st=
      refine ⟨rfl, rfl, ?_, (fr.refl _ _ _).up _ (by omega)⟩
      rw [chS, if_neg (fun q => absurd h12 (Int32.not_le.mpr ((c0 _ _).mpr q.2)))]
      exact fin none (fun k e => by cases e)
    · have v1 : 0 ≤ v := Int64.not_lt.mp (fun q => h4 ((c0 _ _).mpr q))
      have v2 : v < 4 := (c0 _ _).mp (Int32.not_le.mp h12)
      have i1 : 0 ≤ v.toInt := by simpa using Int64.le_iff_toInt_le.mp v1
      have i2 : v.toInt < 4 := by simpa using Int64.lt_iff_toInt_lt.mp v2
      have e1 : v = lN v.toInt.toNat := Int64.toInt_inj.mp (by rw [lN_toInt (by omega)]; omega)
      have e2 : v.toInt32 = nI v.toInt.toNat := by conv => lhs; rw [e1]
                                                   exact lN_i _
      refine aw_lload_n (pc := 15) X d_Ro_choose_15 (by rfl) ?_
      refine aw_l2i (pc := 16) X d_Ro_choose_16 ?_
      refine aw_goto (pc := 17) X (tgt := 21) d_Ro_choose_17 (by rfl) ?_
      refine aw_putO (pc := 21) X _ 1 (by omega) (by (repeat (first | rw [aw_up_eq] | rw [aw_up_ne _ _ (by first | assumption | omega)])) <;> first | assumption | rfl) (by rfl) in_Ro (by decide) ty_Ro ok_Ro nm_Ro k_152 (by rfl) (by rfl) (by rfl) (by simp) (fs' := [_, _]) (by rfl) d_Ro_choose_21 ?_
      refine aw_vret Y X rfl d_Ro_choose_24 (by omega) (by omega) (hP _ _ _ ?_)
      -- ret 24 lv=0:r,1:l st=
      refine ⟨rfl, rfl, ?_, (fr.refl _ _ _).up _ (by omega)⟩
      rw [chS, if_pos ⟨v1, v2⟩, e2]
      exact fin (some v.toInt.toNat) (fun k e => by cases e; omega)
theorem pV_ne {k : Nat} (h : k < 4) : nI k ≠ -1 := by
  rcases (show k = 0 ∨ k = 1 ∨ k = 2 ∨ k = 3 by omega) with rfl | rfl | rfl | rfl <;> decide
theorem s_Ro_pour {p : Option Nat} {R : Nat → List Nat} {a : Nat} {t : Option Nat} (hnx : 15 ≤ nx) (hd : 2 ≤ d) (ha : a < 4) (htk : ∀ k, t = some k → k < 4) (h : hRo G w p R) : AC G y_Ro_pour b_Ro_pour 4 (some .boolean) d false [rf G 5, .int (nI a), .int (pV t)] nx w 0 0 (fun r w' nx' => nx' = nx ∧ r = some (.int (nI (bN (pourS R a t).1))) ∧ hRo G w' p (pourS R a t).2 ∧ fr 5 15 w w') := by
  have h0 := h
  obtain ⟨g1, ⟨f, g2, g3⟩, g4, g5⟩ := h
  have g3a := g3 a ha
  have hTa := g4 a ha
  obtain ⟨fa, ea, ea2, -⟩ := g4 a ha
  refine AC.ofW (by decide) (Nat.le_of_ble_eq_true rfl) ?_
  intro E P hP Y X
  have X : aw_X G "RescanDesk$Rows" b_Ro_pour 4 (some .boolean) "pour" _ _ _ _ _ E := X
  refine AW.eql (lv' := [(0, _), (1, _), (2, _)]) (by rfl) ?_
  cases t with
  | none =>
    refine aw_iload_n (pc := 0) X d_Ro_pour_0 (by rfl) ?_
    refine aw_iload_n (pc := 1) X d_Ro_pour_1 (by rfl) ?_
    refine aw_icmp_ne (pc := 2) X (tgt := 7) d_Ro_pour_2 (by rfl) (fun h2 => ?_) (fun h2 => ?_)
    -- br 2 lv=0:r,1:n,2:i st=
    · refine aw_aload_nR (pc := 7) X d_Ro_pour_7 (by rfl) ?_
      refine aw_getO (pc := 8) X _ 0 (by omega) (by (repeat (first | rw [aw_up_eq] | rw [aw_up_ne _ _ (by first | assumption | omega)])) <;> first | assumption | rfl) (by rfl) in_Ro (by decide) k_150 (by rfl) d_Ro_pour_8 ?_
      refine aw_iload_n (pc := 11) X d_Ro_pour_11 (by rfl) ?_
      refine aw_aaldN (pc := 12) X _ 4 (by omega) (by (repeat (first | rw [aw_up_eq] | rw [aw_up_ne _ _ (by first | assumption | omega)])) <;> first | assumption | rfl) (by rfl) (by omega) (by omega) (by assumption) d_Ro_pour_12 ?_
      refine aw_astore_nR (pc := 13) X (lv' := [(3, _), (0, _), (1, _), (2, _)]) d_Ro_pour_13 (by decide) (by rfl) ?_
      refine aw_iload_n (pc := 14) X d_Ro_pour_14 (by rfl) ?_
      refine aw_iconst (pc := 15) X (v := -1) d_Ro_pour_15 (by decide) ?_
      refine aw_icmp_eq (pc := 16) X (tgt := 53) d_Ro_pour_16 (by rfl) (fun h16 => ?_) (fun h16 => ?_)
      -- br 16 lv=3:r,0:r,1:n,2:i st=
      · have hT53 := s_Tx_empty (d := 0) (nx := nx) (by omega) hTa
        refine aw_aload_nR (pc := 53) X d_Ro_pour_53 (by rfl) ?_
        -- invokevirtual 54 lv=3:r,0:r,1:n,2:i st=r
        refine aw_callV (pc := 54) X _ hT53 q_Tx_empty k_516 k_196 k_197 (by omega) ea (by rfl) d_Ro_pour_54 (by omega) (Nat.le_of_ble_eq_true rfl) ⟨by omega, by omega⟩ (fun h => by cases h) (fun r w' nx' hp => ?_)
        obtain ⟨rfl, rfl, ht, hf2⟩ := hp
        refine aw_iconstN (pc := 57) X 1 d_Ro_pour_57 (by decide) ?_
        refine aw_zret Y X rfl (by decide +kernel) d_Ro_pour_58 (by omega) (by omega) (hP _ _ _ ?_)
        -- ret 58 lv=3:r,0:r,1:n,2:i st=n
        exact ⟨rfl, rfl, h0.row ha ht hf2, hf2.mono (by omega) (by omega)⟩
      · exact absurd rfl h16
    · exact absurd h2 (pV_ne ha)
  | some k =>
    have hk := htk k rfl
    have g3k := g3 k hk
    have hTk := g4 k hk
    obtain ⟨fk, ek, ek2, -⟩ := g4 k hk
    refine AW.eql (lv' := [(0, rf G 5), (1, .int (nI a)), (2, .int (nI k))]) rfl ?_
    refine aw_iload_n (pc := 0) X d_Ro_pour_0 (by rfl) ?_
    refine aw_iload_n (pc := 1) X d_Ro_pour_1 (by rfl) ?_
    refine aw_icmp_neN (pc := 2) X (tgt := 7) d_Ro_pour_2 (by rfl) (by omega) (by omega) (fun h2 => ?_) (fun h2 => ?_)
    -- br 2 lv=0:r,1:n,2:n st=
    · have hne : ¬ k = a := fun e => h2 e.symm
      refine aw_aload_nR (pc := 7) X d_Ro_pour_7 (by rfl) ?_
      refine aw_getO (pc := 8) X _ 0 (by omega) (by (repeat (first | rw [aw_up_eq] | rw [aw_up_ne _ _ (by first | assumption | omega)])) <;> first | assumption | rfl) (by rfl) in_Ro (by decide) k_150 (by rfl) d_Ro_pour_8 ?_
      refine aw_iload_n (pc := 11) X d_Ro_pour_11 (by rfl) ?_
      refine aw_aaldN (pc := 12) X _ 4 (by omega) (by (repeat (first | rw [aw_up_eq] | rw [aw_up_ne _ _ (by first | assumption | omega)])) <;> first | assumption | rfl) (by rfl) (by omega) (by omega) (by assumption) d_Ro_pour_12 ?_
      refine aw_astore_nR (pc := 13) X (lv' := [(3, _), (0, _), (1, _), (2, _)]) d_Ro_pour_13 (by decide) (by rfl) ?_
      refine aw_iload_n (pc := 14) X d_Ro_pour_14 (by rfl) ?_
      refine aw_iconst (pc := 15) X (v := -1) d_Ro_pour_15 (by decide) ?_
      refine aw_icmp_eq (pc := 16) X (tgt := 53) d_Ro_pour_16 (by rfl) (fun h16 => ?_) (fun h16 => ?_)
      -- br 16 lv=3:r,0:r,1:n,2:n st=
      · exact absurd h16 (pV_ne hk)
      · refine aw_aload_nR (pc := 19) X d_Ro_pour_19 (by rfl) ?_
        refine aw_getO (pc := 20) X _ 0 (by omega) (by (repeat (first | rw [aw_up_eq] | rw [aw_up_ne _ _ (by first | assumption | omega)])) <;> first | assumption | rfl) (by rfl) in_Ro (by decide) k_150 (by rfl) d_Ro_pour_20 ?_
        refine aw_iload_n (pc := 23) X d_Ro_pour_23 (by rfl) ?_
        refine aw_aaldN (pc := 24) X _ 4 (by omega) (by (repeat (first | rw [aw_up_eq] | rw [aw_up_ne _ _ (by first | assumption | omega)])) <;> first | assumption | rfl) (by rfl) (by omega) (by omega) (by assumption) d_Ro_pour_24 ?_
        refine aw_aload_nR (pc := 25) X d_Ro_pour_25 (by rfl) ?_
        -- invokevirtual 26 lv=3:r,0:r,1:n,2:n st=r,r
        refine aw_callV (pc := 26) X _ (s_Tx_hasRoomFor (d := 0) (by omega) (by omega) (by omega) (by omega) hTk hTa) q_Tx_hasRoomFor k_724 k_725 k_726 (by omega) ek (by rfl) d_Ro_pour_26 (by omega) (Nat.le_of_ble_eq_true rfl) ⟨by omega, by omega⟩ (fun h => by cases h) (fun r w' nx' hp => ?_)
        obtain ⟨rfl, rfl, rfl⟩ := hp
        have hb := bN_lt (decide ((R k).length + (R a).length ≤ 300))
        refine aw_if_neN (pc := 29) X (tgt := 34) d_Ro_pour_29 (by rfl) (by omega) (fun h29 => ?_) (fun h29 => ?_)
        -- br 29 lv=3:r,0:r,1:n,2:n st=
        · have hfit := of_decide_eq_true (bN_ne.mp h29)
          have eP : pourS R a (some k) = (true, upR (upR R k (R k ++ R a)) a []) := by simp [pourS, hne, hfit]
          obtain ⟨ga, q1, q2, q3, q4, q5⟩ := hTa
          refine aw_aload_nR (pc := 34) X d_Ro_pour_34 (by rfl) ?_
          refine aw_getO (pc := 35) X _ 0 (by omega) (by (repeat (first | rw [aw_up_eq] | rw [aw_up_ne _ _ (by first | assumption | omega)])) <;> first | assumption | rfl) (by rfl) in_Ro (by decide) k_150 (by rfl) d_Ro_pour_35 ?_
          refine aw_iload_n (pc := 38) X d_Ro_pour_38 (by rfl) ?_
          refine aw_aaldN (pc := 39) X _ 4 (by omega) (by (repeat (first | rw [aw_up_eq] | rw [aw_up_ne _ _ (by first | assumption | omega)])) <;> first | assumption | rfl) (by rfl) (by omega) (by omega) (by assumption) d_Ro_pour_39 ?_
          refine aw_aload_nR (pc := 40) X d_Ro_pour_40 (by rfl) ?_
          refine aw_getNO (pc := 41) X _ 0 (by omega) (by (repeat (first | rw [aw_up_eq] | rw [aw_up_ne _ _ (by first | assumption | omega)])) <;> first | assumption | rfl) (by rfl) in_Tx (by decide) k_109 (by rfl) d_Ro_pour_41 ?_
          refine aw_iconstN (pc := 44) X 0 d_Ro_pour_44 (by decide) ?_
          refine aw_aload_nR (pc := 45) X d_Ro_pour_45 (by rfl) ?_
          refine aw_getNO (pc := 46) X _ 1 (by omega) (by (repeat (first | rw [aw_up_eq] | rw [aw_up_ne _ _ (by first | assumption | omega)])) <;> first | assumption | rfl) (by rfl) in_Tx (by decide) k_118 (by rfl) d_Ro_pour_46 ?_
          -- invokevirtual 49 lv=3:r,0:r,1:n,2:n st=n,n,r,r
          refine aw_callV (pc := 49) X _ (s_Tx_addPart (d := 1) (a := 7 + 2 * k) (m := 300) (q := 7 + 2 * a + 1) (l := 300) (f := ga) (by omega) (by omega) (by omega) (by omega) (by omega) (by omega) q4 q5 hTk q2) q_Tx_addPart k_728 k_547 k_548 (by omega) ek (by rfl) d_Ro_pour_49 (by omega) (Nat.le_of_ble_eq_true rfl) ⟨by omega, by omega⟩ (fun h => by cases h) (fun r w' nx' hp => ?_)
          obtain ⟨rfl, rfl, ht, hf2⟩ := hp
          rw [Nat.sub_zero, ← q3, List.take_of_length_le (by simp; omega)] at ht
          have hTa2 : hTx G w' (7 + 2 * a) 300 (R a) := (g4 a ha).keep hf2 (by omega)
          have ea3 : w' (7 + 2 * a) = oTx G (7 + 2 * a + 1) (R a).length := (hf2 _ (by omega)).trans ea
          refine aw_pop (pc := 52) X d_Ro_pour_52 (by rfl) ?_
          refine aw_aload_nR (pc := 53) X d_Ro_pour_53 (by rfl) ?_
          -- invokevirtual 54 lv=3:r,0:r,1:n,2:n st=r
          refine aw_callV (pc := 54) X _ (s_Tx_empty (d := 0) (by omega) hTa2) q_Tx_empty k_516 k_196 k_197 (by omega) ea3 (by rfl) d_Ro_pour_54 (by omega) (Nat.le_of_ble_eq_true rfl) ⟨by omega, by omega⟩ (fun h => by cases h) (fun r w' nx' hp => ?_)
          obtain ⟨rfl, rfl, ht2, hf3⟩ := hp
          refine aw_iconstN (pc := 57) X 1 d_Ro_pour_57 (by decide) ?_
          refine aw_zret Y X rfl (by decide +kernel) d_Ro_pour_58 (by omega) (by omega) (hP _ _ _ ?_)
          -- ret 58 lv=3:r,0:r,1:n,2:n st=n
          rw [eP]
          exact ⟨rfl, rfl, (h0.row hk ht hf2).row ha ht2 hf3, (hf2.mono (by omega) (by omega)).trans (hf3.mono (by omega) (by omega))⟩
        · have hfit := of_decide_eq_false (bN_eq.mp h29)
          have eP : pourS R a (some k) = (false, R) := by simp [pourS, hne, hfit]
          refine aw_iconstN (pc := 32) X 0 d_Ro_pour_32 (by decide) ?_
          refine aw_zret Y X rfl (by decide +kernel) d_Ro_pour_33 (by omega) (by omega) (hP _ _ _ ?_)
          -- ret 33 lv=3:r,0:r,1:n,2:n st=n
          rw [eP]
          exact ⟨rfl, rfl, h0, fr.refl _ _ _⟩
    · have eP : pourS R a (some k) = (true, R) := by simp [pourS, h2]
      refine aw_iconstN (pc := 5) X 1 d_Ro_pour_5 (by decide) ?_
      refine aw_zret Y X rfl (by decide +kernel) d_Ro_pour_6 (by omega) (by omega) (hP _ _ _ ?_)
      -- ret 6 lv=0:r,1:n,2:n st=n
      rw [eP]
      exact ⟨rfl, rfl, h0, fr.refl _ _ _⟩
theorem s_Ro_pourAll {p : Option Nat} {R : Nat → List Nat} {t : Option Nat} (hnx : 15 ≤ nx) (hd : 3 ≤ d) (htk : ∀ k, t = some k → k < 4) (h : hRo G w p R) : AC G y_Ro_pourAll b_Ro_pourAll 3 (some .boolean) d false [rf G 5, .int (pV t)] nx w 0 0 (fun r w' nx' => nx' = nx ∧ r = some (.int (nI (bN (pourAllS R t).1))) ∧ hRo G w' p (pourAllS R t).2 ∧ fr 5 15 w w') := by
  refine AC.ofW (by decide) (Nat.le_of_ble_eq_true rfl) ?_
  intro E P hP Y X
  have X : aw_X G "RescanDesk$Rows" b_Ro_pourAll 3 (some .boolean) "pourAll" _ _ _ _ _ E := X
  refine AW.eql (lv' := [(0, _), (1, _)]) (by rfl) ?_
  have S : ∀ (i : Nat) (w1 : Nat → va_E) (R1 : Nat → List Nat), i < 4 → hRo G w1 p R1 → fr 5 15 w w1 →
      (∀ w2, (pourS R1 i t).1 = true → hRo G w2 p (pourS R1 i t).2 → fr 5 15 w w2 → AW G E 3 nx 0 0 w2 2 [(2, .int (nI (i + 1))), (0, rf G 5), (1, .int (pV t))] []) →
      ((pourS R1 i t).1 = false → (pourAllS R t) = pourS R1 i t) →
      AW G E 3 nx 0 0 w1 2 [(2, .int (nI i)), (0, rf G 5), (1, .int (pV t))] [] := by
    intro i w1 R1 hi h1 hf hgo hstop
    have h10 := h1
    obtain ⟨g1, -⟩ := h1
    refine aw_iload_n (pc := 2) X d_Ro_pourAll_2 (by rfl) ?_
    refine aw_iconstN (pc := 3) X 4 d_Ro_pourAll_3 (by decide) ?_
    refine aw_icmp_geN (pc := 4) X (tgt := 24) d_Ro_pourAll_4 (by rfl) (by omega) (by omega) (fun h4 => ?_) (fun h4 => ?_)
    -- br 4 lv=2:n,0:r,1:i st=
    · omega
    · refine aw_aload_nR (pc := 7) X d_Ro_pourAll_7 (by rfl) ?_
      refine aw_iload_n (pc := 8) X d_Ro_pourAll_8 (by rfl) ?_
      refine aw_iload_n (pc := 9) X d_Ro_pourAll_9 (by rfl) ?_
      -- invokevirtual 10 lv=2:n,0:r,1:i st=i,n,r
      refine aw_callV (pc := 10) X _ (s_Ro_pour (d := 2) (p := p) (R := R1) (t := t) hnx (by omega) hi htk h10) q_Ro_pour k_720 k_721 k_722 (by omega) g1 (by rfl) d_Ro_pourAll_10 (by omega) (Nat.le_of_ble_eq_true rfl) ⟨by omega, by omega⟩ (fun h => by cases h) (fun r w' nx' hp => ?_)
      obtain ⟨rfl, rfl, h2, hf2⟩ := hp
      have hb := bN_lt (pourS R1 i t).1
      refine aw_if_neN (pc := 13) X (tgt := 18) d_Ro_pourAll_13 (by rfl) (by omega) (fun h13 => ?_) (fun h13 => ?_)
      -- br 13 lv=2:n,0:r,1:i st=
      · refine aw_iincN (pc := 18) X 1 (lv' := [(2, _), (0, _), (1, _)]) d_Ro_pourAll_18 (by rfl) (by decide) (by decide) (by rfl) ?_
        refine aw_goto (pc := 21) X (tgt := 2) d_Ro_pourAll_21 (by rfl) ?_
        -- stop 2 lv=2:n,0:r,1:i st=
        exact hgo _ (bN_ne.mp h13) h2 (hf.trans hf2)
      · have he := bN_eq.mp h13
        refine aw_iconstN (pc := 16) X 0 d_Ro_pourAll_16 (by decide) ?_
        refine aw_zret Y X rfl (by decide +kernel) d_Ro_pourAll_17 (by omega) (by omega) (hP _ _ _ ?_)
        -- ret 17 lv=2:n,0:r,1:i st=n
        rw [hstop he, he]
        exact ⟨rfl, rfl, h2, hf.trans hf2⟩
  refine aw_iconstN (pc := 0) X 1 d_Ro_pourAll_0 (by decide) ?_
  refine aw_istore_n (pc := 1) X (lv' := [(2, _), (0, _), (1, _)]) d_Ro_pourAll_1 (by decide) (by rfl) ?_
  -- stop 2 lv=2:n,0:r,1:i st=
  refine S 1 w R (by omega) h (fr.refl _ _ _) (fun w2 e2 h2 f2 => ?_) (fun e => by rw [pourAllS, if_neg (by rw [e]; decide)])
  refine S 2 w2 _ (by omega) h2 f2 (fun w3 e3 h3 f3 => ?_) (fun e => by rw [pourAllS, if_pos e2, if_neg (by rw [e]; decide)])
  refine S 3 w3 _ (by omega) h3 f3 (fun w4 e4 q4 f4 => ?_) (fun e => by rw [pourAllS, if_pos e2, if_pos e3])
  refine aw_iload_n (pc := 2) X d_Ro_pourAll_2 (by rfl) ?_
  refine aw_iconstN (pc := 3) X 4 d_Ro_pourAll_3 (by decide) ?_
  refine aw_icmp_geN (pc := 4) X (tgt := 24) d_Ro_pourAll_4 (by rfl) (by omega) (by omega) (fun h4 => ?_) (fun h4 => ?_)
  -- br 4 lv=2:n,0:r,1:i st=
  · have e : pourAllS R t = pourS (pourS (pourS R 1 t).2 2 t).2 3 t := by rw [pourAllS, if_pos e2, if_pos e3]
    refine aw_iconstN (pc := 24) X 1 d_Ro_pourAll_24 (by decide) ?_
    refine aw_zret Y X rfl (by decide +kernel) d_Ro_pourAll_25 (by omega) (by omega) (hP _ _ _ ?_)
    -- ret 25 lv=2:n,0:r,1:i st=n
    rw [e, e4]
    exact ⟨rfl, rfl, q4, f4⟩
  · omega
theorem s_Ro_join {p : Option Nat} {R : Nat → List Nat} (hnx : 15 ≤ nx) (hd : 4 ≤ d) (h : hRo G w p R) : AC G y_Ro_join b_Ro_join 1 (some .boolean) d false [rf G 5] nx w 0 0 (fun r w' nx' => nx' = nx ∧ r = some (.int (nI (bN (pourAllS R (some 0)).1))) ∧ hRo G w' (if (pourAllS R (some 0)).1 = true then some 0 else p) (pourAllS R (some 0)).2 ∧ fr 5 15 w w') := by
  have h0 := h
  obtain ⟨g1, -⟩ := h
  refine AC.ofW (by decide) (Nat.le_of_ble_eq_true rfl) ?_
  intro E P hP Y X
  have X : aw_X G "RescanDesk$Rows" b_Ro_join 1 (some .boolean) "join" _ _ _ _ _ E := X
  refine AW.eql (lv' := [(0, _)]) (by rfl) ?_
  refine aw_aload_nR (pc := 0) X d_Ro_join_0 (by rfl) ?_
  refine aw_iconstN (pc := 1) X 0 d_Ro_join_1 (by decide) ?_
  -- invokevirtual 2 lv=0:r st=n,r
  refine aw_callV (pc := 2) X _ (s_Ro_pourAll (d := 3) (p := p) (R := R) (t := some 0) hnx (by omega) (fun k e => by cases e; omega) h0) q_Ro_pourAll k_812 k_717 k_718 (by omega) g1 (by rfl) d_Ro_join_2 (by omega) (Nat.le_of_ble_eq_true rfl) ⟨by omega, by omega⟩ (fun h => by cases h) (fun r w' nx' hp => ?_)
  obtain ⟨rfl, rfl, h2, hf2⟩ := hp
  have hb := bN_lt (pourAllS R (some 0)).1
  refine aw_if_neN (pc := 5) X (tgt := 10) d_Ro_join_5 (by rfl) (by omega) (fun h5 => ?_) (fun h5 => ?_)
  -- br 5 lv=0:r st=
  · have he := bN_ne.mp h5
    obtain ⟨k1, ⟨f, k2, k3⟩, k4, k5⟩ := h2
    refine aw_aload_nR (pc := 10) X d_Ro_join_10 (by rfl) ?_
    refine aw_iconstN (pc := 11) X 0 d_Ro_join_11 (by decide) ?_
    refine aw_putO (pc := 12) X _ 1 (by omega) (by (repeat (first | rw [aw_up_eq] | rw [aw_up_ne _ _ (by first | assumption | omega)])) <;> first | assumption | rfl) (by rfl) in_Ro (by decide) ty_Ro ok_Ro nm_Ro k_152 (by rfl) (by rfl) (by rfl) (by simp) (fs' := [_, _]) (by rfl) d_Ro_join_12 ?_
    refine aw_iconstN (pc := 15) X 1 d_Ro_join_15 (by decide) ?_
    refine aw_zret Y X rfl (by decide +kernel) d_Ro_join_16 (by omega) (by omega) (hP _ _ _ ?_)
    -- ret 16 lv=0:r st=n
    rw [if_pos he, he]
    refine ⟨rfl, rfl, ⟨aw_up_eq _ _ _, ⟨f, by rw [aw_up_ne _ _ (by omega)]; exact k2, k3⟩, fun r hr => (k4 r hr).kept (by rw [aw_up_ne _ _ (by omega)]) (by rw [aw_up_ne _ _ (by omega)]), fun k e => by cases e; omega⟩, hf2.up _ (by omega)⟩
  · have he := bN_eq.mp h5
    refine aw_iconstN (pc := 8) X 0 d_Ro_join_8 (by decide) ?_
    refine aw_zret Y X rfl (by decide +kernel) d_Ro_join_9 (by omega) (by omega) (hP _ _ _ ?_)
    -- ret 9 lv=0:r st=n
    rw [if_neg (by rw [he]; decide), he]
    exact ⟨rfl, rfl, h2, hf2⟩
end
end
section
/-! RescanDesk$Definition: at a, its name's Text at a + 1, its body's at a + 3; RescanDesk$Table at 15, 16, its sixty definitions from 17 on -/
def y_De_init : MethodName := ⟨"RescanDesk$Definition", "<init>", "()V"⟩
abbrev b_De_init : ByteArray := prog_6_method_1_code
theorem d_De_init_0 : decode b_De_init 0 = .ok (.aload_n 0, 1) := by decide +kernel
theorem d_De_init_1 : decode b_De_init 1 = .ok (.invokespecial 3, 3) := by decide +kernel
theorem d_De_init_4 : decode b_De_init 4 = .ok (.aload_n 0, 1) := by decide +kernel
theorem d_De_init_5 : decode b_De_init 5 = .ok (.new 9, 3) := by decide +kernel
theorem d_De_init_8 : decode b_De_init 8 = .ok (.dup, 1) := by decide +kernel
theorem d_De_init_9 : decode b_De_init 9 = .ok (.bipush 12, 2) := by decide +kernel
theorem d_De_init_11 : decode b_De_init 11 = .ok (.invokespecial 11, 3) := by decide +kernel
theorem d_De_init_14 : decode b_De_init 14 = .ok (.putfield 14, 3) := by decide +kernel
theorem d_De_init_17 : decode b_De_init 17 = .ok (.aload_n 0, 1) := by decide +kernel
theorem d_De_init_18 : decode b_De_init 18 = .ok (.new 9, 3) := by decide +kernel
theorem d_De_init_21 : decode b_De_init 21 = .ok (.dup, 1) := by decide +kernel
theorem d_De_init_22 : decode b_De_init 22 = .ok (.bipush 100, 2) := by decide +kernel
theorem d_De_init_24 : decode b_De_init 24 = .ok (.invokespecial 11, 3) := by decide +kernel
theorem d_De_init_27 : decode b_De_init 27 = .ok (.putfield 20, 3) := by decide +kernel
theorem d_De_init_30 : decode b_De_init 30 = .ok (.aload_n 0, 1) := by decide +kernel
theorem d_De_init_31 : decode b_De_init 31 = .ok (.aconst_null, 1) := by decide +kernel
theorem d_De_init_32 : decode b_De_init 32 = .ok (.putfield 23, 3) := by decide +kernel
theorem d_De_init_35 : decode b_De_init 35 = .ok (.return_, 1) := by decide +kernel
theorem q_De_init : aw_q1 y_De_init b_De_init 1 none 0 := ⟨k_171, k_68, ⟨by decide, by decide, by decide +kernel⟩, by decide⟩
def y_De_setBody : MethodName := ⟨"RescanDesk$Definition", "setBody", "([CII)V"⟩
abbrev b_De_setBody : ByteArray := prog_6_method_3_code
theorem d_De_setBody_0 : decode b_De_setBody 0 = .ok (.aload_n 0, 1) := by decide +kernel
theorem d_De_setBody_1 : decode b_De_setBody 1 = .ok (.aconst_null, 1) := by decide +kernel
theorem d_De_setBody_2 : decode b_De_setBody 2 = .ok (.putfield 23, 3) := by decide +kernel
theorem d_De_setBody_5 : decode b_De_setBody 5 = .ok (.aload_n 0, 1) := by decide +kernel
theorem d_De_setBody_6 : decode b_De_setBody 6 = .ok (.getfield 20, 3) := by decide +kernel
theorem d_De_setBody_9 : decode b_De_setBody 9 = .ok (.aload_n 1, 1) := by decide +kernel
theorem d_De_setBody_10 : decode b_De_setBody 10 = .ok (.iload_n 2, 1) := by decide +kernel
theorem d_De_setBody_11 : decode b_De_setBody 11 = .ok (.iload_n 3, 1) := by decide +kernel
theorem d_De_setBody_12 : decode b_De_setBody 12 = .ok (.invokevirtual 50, 3) := by decide +kernel
theorem d_De_setBody_15 : decode b_De_setBody 15 = .ok (.return_, 1) := by decide +kernel
theorem q_De_setBody : aw_q1 y_De_setBody b_De_setBody 4 none 3 := ⟨k_686, k_68, ⟨by decide, by decide, by decide +kernel⟩, by decide⟩
def y_De_copy : MethodName := ⟨"RescanDesk$Definition", "copy", "(LRescanDesk$Definition;)V"⟩
abbrev b_De_copy : ByteArray := prog_6_method_4_code
theorem d_De_copy_0 : decode b_De_copy 0 = .ok (.aload_n 0, 1) := by decide +kernel
theorem d_De_copy_1 : decode b_De_copy 1 = .ok (.aload_n 1, 1) := by decide +kernel
theorem d_De_copy_2 : decode b_De_copy 2 = .ok (.getfield 23, 3) := by decide +kernel
theorem d_De_copy_5 : decode b_De_copy 5 = .ok (.putfield 23, 3) := by decide +kernel
theorem d_De_copy_8 : decode b_De_copy 8 = .ok (.aload_n 0, 1) := by decide +kernel
theorem d_De_copy_9 : decode b_De_copy 9 = .ok (.getfield 14, 3) := by decide +kernel
theorem d_De_copy_12 : decode b_De_copy 12 = .ok (.aload_n 1, 1) := by decide +kernel
theorem d_De_copy_13 : decode b_De_copy 13 = .ok (.getfield 14, 3) := by decide +kernel
theorem d_De_copy_16 : decode b_De_copy 16 = .ok (.getfield 54, 3) := by decide +kernel
theorem d_De_copy_19 : decode b_De_copy 19 = .ok (.iconst 0, 1) := by decide +kernel
theorem d_De_copy_20 : decode b_De_copy 20 = .ok (.aload_n 1, 1) := by decide +kernel
theorem d_De_copy_21 : decode b_De_copy 21 = .ok (.getfield 14, 3) := by decide +kernel
theorem d_De_copy_24 : decode b_De_copy 24 = .ok (.getfield 58, 3) := by decide +kernel
theorem d_De_copy_27 : decode b_De_copy 27 = .ok (.invokevirtual 50, 3) := by decide +kernel
theorem d_De_copy_30 : decode b_De_copy 30 = .ok (.aload_n 0, 1) := by decide +kernel
theorem d_De_copy_31 : decode b_De_copy 31 = .ok (.getfield 20, 3) := by decide +kernel
theorem d_De_copy_34 : decode b_De_copy 34 = .ok (.aload_n 1, 1) := by decide +kernel
theorem d_De_copy_35 : decode b_De_copy 35 = .ok (.getfield 20, 3) := by decide +kernel
theorem d_De_copy_38 : decode b_De_copy 38 = .ok (.getfield 54, 3) := by decide +kernel
theorem d_De_copy_41 : decode b_De_copy 41 = .ok (.iconst 0, 1) := by decide +kernel
theorem d_De_copy_42 : decode b_De_copy 42 = .ok (.aload_n 1, 1) := by decide +kernel
theorem d_De_copy_43 : decode b_De_copy 43 = .ok (.getfield 20, 3) := by decide +kernel
theorem d_De_copy_46 : decode b_De_copy 46 = .ok (.getfield 58, 3) := by decide +kernel
theorem d_De_copy_49 : decode b_De_copy 49 = .ok (.invokevirtual 50, 3) := by decide +kernel
theorem d_De_copy_52 : decode b_De_copy 52 = .ok (.return_, 1) := by decide +kernel
theorem q_De_copy : aw_q1 y_De_copy b_De_copy 2 none 1 := ⟨k_575, k_68, ⟨by decide, by decide, by decide +kernel⟩, by decide⟩
def y_De_setBuiltIn : MethodName := ⟨"RescanDesk$Definition", "setBuiltIn", "(LRescanDesk$BuiltIn;)V"⟩
abbrev b_De_setBuiltIn : ByteArray := prog_6_method_2_code
theorem d_De_setBuiltIn_0 : decode b_De_setBuiltIn 0 = .ok (.aload_n 0, 1) := by decide +kernel
theorem d_De_setBuiltIn_1 : decode b_De_setBuiltIn 1 = .ok (.aload_n 1, 1) := by decide +kernel
theorem d_De_setBuiltIn_2 : decode b_De_setBuiltIn 2 = .ok (.putfield 23, 3) := by decide +kernel
theorem d_De_setBuiltIn_5 : decode b_De_setBuiltIn 5 = .ok (.aload_n 0, 1) := by decide +kernel
theorem d_De_setBuiltIn_6 : decode b_De_setBuiltIn 6 = .ok (.getfield 20, 3) := by decide +kernel
theorem d_De_setBuiltIn_9 : decode b_De_setBuiltIn 9 = .ok (.invokevirtual 27, 3) := by decide +kernel
theorem d_De_setBuiltIn_12 : decode b_De_setBuiltIn 12 = .ok (.aload_n 0, 1) := by decide +kernel
theorem d_De_setBuiltIn_13 : decode b_De_setBuiltIn 13 = .ok (.getfield 14, 3) := by decide +kernel
theorem d_De_setBuiltIn_16 : decode b_De_setBuiltIn 16 = .ok (.invokevirtual 27, 3) := by decide +kernel
theorem d_De_setBuiltIn_19 : decode b_De_setBuiltIn 19 = .ok (.iconst 0, 1) := by decide +kernel
theorem d_De_setBuiltIn_20 : decode b_De_setBuiltIn 20 = .ok (.istore_n 2, 1) := by decide +kernel
theorem d_De_setBuiltIn_21 : decode b_De_setBuiltIn 21 = .ok (.iload_n 2, 1) := by decide +kernel
theorem d_De_setBuiltIn_22 : decode b_De_setBuiltIn 22 = .ok (.aload_n 1, 1) := by decide +kernel
theorem d_De_setBuiltIn_23 : decode b_De_setBuiltIn 23 = .ok (.getfield 30, 3) := by decide +kernel
theorem d_De_setBuiltIn_26 : decode b_De_setBuiltIn 26 = .ok (.invokevirtual 36, 3) := by decide +kernel
theorem d_De_setBuiltIn_29 : decode b_De_setBuiltIn 29 = .ok (.if_icmp .ge 25, 3) := by decide +kernel
theorem d_De_setBuiltIn_32 : decode b_De_setBuiltIn 32 = .ok (.aload_n 0, 1) := by decide +kernel
theorem d_De_setBuiltIn_33 : decode b_De_setBuiltIn 33 = .ok (.getfield 14, 3) := by decide +kernel
theorem d_De_setBuiltIn_36 : decode b_De_setBuiltIn 36 = .ok (.aload_n 1, 1) := by decide +kernel
theorem d_De_setBuiltIn_37 : decode b_De_setBuiltIn 37 = .ok (.getfield 30, 3) := by decide +kernel
theorem d_De_setBuiltIn_40 : decode b_De_setBuiltIn 40 = .ok (.iload_n 2, 1) := by decide +kernel
theorem d_De_setBuiltIn_41 : decode b_De_setBuiltIn 41 = .ok (.invokevirtual 42, 3) := by decide +kernel
theorem d_De_setBuiltIn_44 : decode b_De_setBuiltIn 44 = .ok (.invokevirtual 46, 3) := by decide +kernel
theorem d_De_setBuiltIn_47 : decode b_De_setBuiltIn 47 = .ok (.pop, 1) := by decide +kernel
theorem d_De_setBuiltIn_48 : decode b_De_setBuiltIn 48 = .ok (.iinc 2 1, 3) := by decide +kernel
theorem d_De_setBuiltIn_51 : decode b_De_setBuiltIn 51 = .ok (.goto (-30), 3) := by decide +kernel
theorem d_De_setBuiltIn_54 : decode b_De_setBuiltIn 54 = .ok (.return_, 1) := by decide +kernel
theorem q_De_setBuiltIn : aw_q1 y_De_setBuiltIn b_De_setBuiltIn 3 none 1 := ⟨k_194, k_68, ⟨by decide, by decide, by decide +kernel⟩, by decide⟩
def y_Ta_topmost : MethodName := ⟨"RescanDesk$Table", "topmost", "([CII)I"⟩
abbrev b_Ta_topmost : ByteArray := prog_11_method_2_code
theorem d_Ta_topmost_0 : decode b_Ta_topmost 0 = .ok (.aload_n 0, 1) := by decide +kernel
theorem d_Ta_topmost_1 : decode b_Ta_topmost 1 = .ok (.getfield 18, 3) := by decide +kernel
theorem d_Ta_topmost_4 : decode b_Ta_topmost 4 = .ok (.iconst 1, 1) := by decide +kernel
theorem d_Ta_topmost_5 : decode b_Ta_topmost 5 = .ok (.isub, 1) := by decide +kernel
theorem d_Ta_topmost_6 : decode b_Ta_topmost 6 = .ok (.istore 4, 2) := by decide +kernel
theorem d_Ta_topmost_8 : decode b_Ta_topmost 8 = .ok (.iload 4, 2) := by decide +kernel
theorem d_Ta_topmost_10 : decode b_Ta_topmost 10 = .ok (.ifCond .lt 31, 3) := by decide +kernel
theorem d_Ta_topmost_13 : decode b_Ta_topmost 13 = .ok (.aload_n 0, 1) := by decide +kernel
theorem d_Ta_topmost_14 : decode b_Ta_topmost 14 = .ok (.getfield 11, 3) := by decide +kernel
theorem d_Ta_topmost_17 : decode b_Ta_topmost 17 = .ok (.iload 4, 2) := by decide +kernel
theorem d_Ta_topmost_19 : decode b_Ta_topmost 19 = .ok (.aaload, 1) := by decide +kernel
theorem d_Ta_topmost_20 : decode b_Ta_topmost 20 = .ok (.getfield 32, 3) := by decide +kernel
theorem d_Ta_topmost_23 : decode b_Ta_topmost 23 = .ok (.aload_n 1, 1) := by decide +kernel
theorem d_Ta_topmost_24 : decode b_Ta_topmost 24 = .ok (.iload_n 2, 1) := by decide +kernel
theorem d_Ta_topmost_25 : decode b_Ta_topmost 25 = .ok (.iload_n 3, 1) := by decide +kernel
theorem d_Ta_topmost_26 : decode b_Ta_topmost 26 = .ok (.invokevirtual 36, 3) := by decide +kernel
theorem d_Ta_topmost_29 : decode b_Ta_topmost 29 = .ok (.ifCond .eq 6, 3) := by decide +kernel
theorem d_Ta_topmost_32 : decode b_Ta_topmost 32 = .ok (.iload 4, 2) := by decide +kernel
theorem d_Ta_topmost_34 : decode b_Ta_topmost 34 = .ok (.ireturn, 1) := by decide +kernel
theorem d_Ta_topmost_35 : decode b_Ta_topmost 35 = .ok (.iinc 4 (-1), 3) := by decide +kernel
theorem d_Ta_topmost_38 : decode b_Ta_topmost 38 = .ok (.goto (-30), 3) := by decide +kernel
theorem d_Ta_topmost_41 : decode b_Ta_topmost 41 = .ok (.iconst (-1), 1) := by decide +kernel
theorem d_Ta_topmost_42 : decode b_Ta_topmost 42 = .ok (.ireturn, 1) := by decide +kernel
theorem q_Ta_topmost : aw_q1 y_Ta_topmost b_Ta_topmost 5 (some .int) 3 := ⟨k_418, k_67, ⟨by decide, by decide, by decide +kernel⟩, by decide⟩
def y_Ta_macros : MethodName := ⟨"RescanDesk$Table", "macros", "()I"⟩
abbrev b_Ta_macros : ByteArray := prog_11_method_3_code
theorem d_Ta_macros_0 : decode b_Ta_macros 0 = .ok (.iconst 0, 1) := by decide +kernel
theorem d_Ta_macros_1 : decode b_Ta_macros 1 = .ok (.istore_n 1, 1) := by decide +kernel
theorem d_Ta_macros_2 : decode b_Ta_macros 2 = .ok (.iconst 0, 1) := by decide +kernel
theorem d_Ta_macros_3 : decode b_Ta_macros 3 = .ok (.istore_n 2, 1) := by decide +kernel
theorem d_Ta_macros_4 : decode b_Ta_macros 4 = .ok (.iload_n 2, 1) := by decide +kernel
theorem d_Ta_macros_5 : decode b_Ta_macros 5 = .ok (.aload_n 0, 1) := by decide +kernel
theorem d_Ta_macros_6 : decode b_Ta_macros 6 = .ok (.getfield 18, 3) := by decide +kernel
theorem d_Ta_macros_9 : decode b_Ta_macros 9 = .ok (.if_icmp .ge 39, 3) := by decide +kernel
theorem d_Ta_macros_12 : decode b_Ta_macros 12 = .ok (.aload_n 0, 1) := by decide +kernel
theorem d_Ta_macros_13 : decode b_Ta_macros 13 = .ok (.getfield 11, 3) := by decide +kernel
theorem d_Ta_macros_16 : decode b_Ta_macros 16 = .ok (.iload_n 2, 1) := by decide +kernel
theorem d_Ta_macros_17 : decode b_Ta_macros 17 = .ok (.aaload, 1) := by decide +kernel
theorem d_Ta_macros_18 : decode b_Ta_macros 18 = .ok (.getfield 32, 3) := by decide +kernel
theorem d_Ta_macros_21 : decode b_Ta_macros 21 = .ok (.astore_n 3, 1) := by decide +kernel
theorem d_Ta_macros_22 : decode b_Ta_macros 22 = .ok (.aload_n 0, 1) := by decide +kernel
theorem d_Ta_macros_23 : decode b_Ta_macros 23 = .ok (.aload_n 3, 1) := by decide +kernel
theorem d_Ta_macros_24 : decode b_Ta_macros 24 = .ok (.getfield 42, 3) := by decide +kernel
theorem d_Ta_macros_27 : decode b_Ta_macros 27 = .ok (.iconst 0, 1) := by decide +kernel
theorem d_Ta_macros_28 : decode b_Ta_macros 28 = .ok (.aload_n 3, 1) := by decide +kernel
theorem d_Ta_macros_29 : decode b_Ta_macros 29 = .ok (.getfield 46, 3) := by decide +kernel
theorem d_Ta_macros_32 : decode b_Ta_macros 32 = .ok (.invokevirtual 49, 3) := by decide +kernel
theorem d_Ta_macros_35 : decode b_Ta_macros 35 = .ok (.iload_n 2, 1) := by decide +kernel
theorem d_Ta_macros_36 : decode b_Ta_macros 36 = .ok (.if_icmp .ne 6, 3) := by decide +kernel
theorem d_Ta_macros_39 : decode b_Ta_macros 39 = .ok (.iinc 1 1, 3) := by decide +kernel
theorem d_Ta_macros_42 : decode b_Ta_macros 42 = .ok (.iinc 2 1, 3) := by decide +kernel
theorem d_Ta_macros_45 : decode b_Ta_macros 45 = .ok (.goto (-41), 3) := by decide +kernel
theorem d_Ta_macros_48 : decode b_Ta_macros 48 = .ok (.iload_n 1, 1) := by decide +kernel
theorem d_Ta_macros_49 : decode b_Ta_macros 49 = .ok (.ireturn, 1) := by decide +kernel
theorem q_Ta_macros : aw_q1 y_Ta_macros b_Ta_macros 4 (some .int) 0 := ⟨k_414, k_67, ⟨by decide, by decide, by decide +kernel⟩, by decide⟩
def y_Ta_push : MethodName := ⟨"RescanDesk$Table", "push", "([CII)LRescanDesk$Definition;"⟩
abbrev b_Ta_push : ByteArray := prog_11_method_4_code
theorem d_Ta_push_0 : decode b_Ta_push 0 = .ok (.aload_n 0, 1) := by decide +kernel
theorem d_Ta_push_1 : decode b_Ta_push 1 = .ok (.getfield 18, 3) := by decide +kernel
theorem d_Ta_push_4 : decode b_Ta_push 4 = .ok (.bipush 60, 2) := by decide +kernel
theorem d_Ta_push_6 : decode b_Ta_push 6 = .ok (.if_icmp .lt 5, 3) := by decide +kernel
theorem d_Ta_push_9 : decode b_Ta_push 9 = .ok (.aconst_null, 1) := by decide +kernel
theorem d_Ta_push_10 : decode b_Ta_push 10 = .ok (.areturn, 1) := by decide +kernel
theorem d_Ta_push_11 : decode b_Ta_push 11 = .ok (.aload_n 0, 1) := by decide +kernel
theorem d_Ta_push_12 : decode b_Ta_push 12 = .ok (.getfield 11, 3) := by decide +kernel
theorem d_Ta_push_15 : decode b_Ta_push 15 = .ok (.aload_n 0, 1) := by decide +kernel
theorem d_Ta_push_16 : decode b_Ta_push 16 = .ok (.getfield 18, 3) := by decide +kernel
theorem d_Ta_push_19 : decode b_Ta_push 19 = .ok (.aaload, 1) := by decide +kernel
theorem d_Ta_push_20 : decode b_Ta_push 20 = .ok (.astore 4, 2) := by decide +kernel
theorem d_Ta_push_22 : decode b_Ta_push 22 = .ok (.aload 4, 2) := by decide +kernel
theorem d_Ta_push_24 : decode b_Ta_push 24 = .ok (.getfield 32, 3) := by decide +kernel
theorem d_Ta_push_27 : decode b_Ta_push 27 = .ok (.aload_n 1, 1) := by decide +kernel
theorem d_Ta_push_28 : decode b_Ta_push 28 = .ok (.iload_n 2, 1) := by decide +kernel
theorem d_Ta_push_29 : decode b_Ta_push 29 = .ok (.iload_n 3, 1) := by decide +kernel
theorem d_Ta_push_30 : decode b_Ta_push 30 = .ok (.invokevirtual 53, 3) := by decide +kernel
theorem d_Ta_push_33 : decode b_Ta_push 33 = .ok (.aload_n 0, 1) := by decide +kernel
theorem d_Ta_push_34 : decode b_Ta_push 34 = .ok (.dup, 1) := by decide +kernel
theorem d_Ta_push_35 : decode b_Ta_push 35 = .ok (.getfield 18, 3) := by decide +kernel
theorem d_Ta_push_38 : decode b_Ta_push 38 = .ok (.iconst 1, 1) := by decide +kernel
theorem d_Ta_push_39 : decode b_Ta_push 39 = .ok (.iadd, 1) := by decide +kernel
theorem d_Ta_push_40 : decode b_Ta_push 40 = .ok (.putfield 18, 3) := by decide +kernel
theorem d_Ta_push_43 : decode b_Ta_push 43 = .ok (.aload 4, 2) := by decide +kernel
theorem d_Ta_push_45 : decode b_Ta_push 45 = .ok (.areturn, 1) := by decide +kernel
theorem q_Ta_push : aw_q1 y_Ta_push b_Ta_push 5 (some (.object "RescanDesk$Definition")) 3 := ⟨k_681, k_67, ⟨by decide, by decide, by decide +kernel⟩, by decide⟩
def y_Ta_pop : MethodName := ⟨"RescanDesk$Table", "pop", "([CII)V"⟩
abbrev b_Ta_pop : ByteArray := prog_11_method_5_code
theorem d_Ta_pop_0 : decode b_Ta_pop 0 = .ok (.aload_n 0, 1) := by decide +kernel
theorem d_Ta_pop_1 : decode b_Ta_pop 1 = .ok (.aload_n 1, 1) := by decide +kernel
theorem d_Ta_pop_2 : decode b_Ta_pop 2 = .ok (.iload_n 2, 1) := by decide +kernel
theorem d_Ta_pop_3 : decode b_Ta_pop 3 = .ok (.iload_n 3, 1) := by decide +kernel
theorem d_Ta_pop_4 : decode b_Ta_pop 4 = .ok (.invokevirtual 49, 3) := by decide +kernel
theorem d_Ta_pop_7 : decode b_Ta_pop 7 = .ok (.istore 4, 2) := by decide +kernel
theorem d_Ta_pop_9 : decode b_Ta_pop 9 = .ok (.iload 4, 2) := by decide +kernel
theorem d_Ta_pop_11 : decode b_Ta_pop 11 = .ok (.iconst (-1), 1) := by decide +kernel
theorem d_Ta_pop_12 : decode b_Ta_pop 12 = .ok (.if_icmp .eq 9, 3) := by decide +kernel
theorem d_Ta_pop_15 : decode b_Ta_pop 15 = .ok (.aload_n 0, 1) := by decide +kernel
theorem d_Ta_pop_16 : decode b_Ta_pop 16 = .ok (.iload 4, 2) := by decide +kernel
theorem d_Ta_pop_18 : decode b_Ta_pop 18 = .ok (.invokevirtual 57, 3) := by decide +kernel
theorem d_Ta_pop_21 : decode b_Ta_pop 21 = .ok (.return_, 1) := by decide +kernel
theorem q_Ta_pop : aw_q1 y_Ta_pop b_Ta_pop 5 none 3 := ⟨k_690, k_67, ⟨by decide, by decide, by decide +kernel⟩, by decide⟩
def y_Ta_popAll : MethodName := ⟨"RescanDesk$Table", "popAll", "([CII)V"⟩
abbrev b_Ta_popAll : ByteArray := prog_11_method_6_code
theorem d_Ta_popAll_0 : decode b_Ta_popAll 0 = .ok (.aload_n 0, 1) := by decide +kernel
theorem d_Ta_popAll_1 : decode b_Ta_popAll 1 = .ok (.getfield 18, 3) := by decide +kernel
theorem d_Ta_popAll_4 : decode b_Ta_popAll 4 = .ok (.iconst 1, 1) := by decide +kernel
theorem d_Ta_popAll_5 : decode b_Ta_popAll 5 = .ok (.isub, 1) := by decide +kernel
theorem d_Ta_popAll_6 : decode b_Ta_popAll 6 = .ok (.istore 4, 2) := by decide +kernel
theorem d_Ta_popAll_8 : decode b_Ta_popAll 8 = .ok (.iload 4, 2) := by decide +kernel
theorem d_Ta_popAll_10 : decode b_Ta_popAll 10 = .ok (.ifCond .lt 34, 3) := by decide +kernel
theorem d_Ta_popAll_13 : decode b_Ta_popAll 13 = .ok (.aload_n 0, 1) := by decide +kernel
theorem d_Ta_popAll_14 : decode b_Ta_popAll 14 = .ok (.getfield 11, 3) := by decide +kernel
theorem d_Ta_popAll_17 : decode b_Ta_popAll 17 = .ok (.iload 4, 2) := by decide +kernel
theorem d_Ta_popAll_19 : decode b_Ta_popAll 19 = .ok (.aaload, 1) := by decide +kernel
theorem d_Ta_popAll_20 : decode b_Ta_popAll 20 = .ok (.getfield 32, 3) := by decide +kernel
theorem d_Ta_popAll_23 : decode b_Ta_popAll 23 = .ok (.aload_n 1, 1) := by decide +kernel
theorem d_Ta_popAll_24 : decode b_Ta_popAll 24 = .ok (.iload_n 2, 1) := by decide +kernel
theorem d_Ta_popAll_25 : decode b_Ta_popAll 25 = .ok (.iload_n 3, 1) := by decide +kernel
theorem d_Ta_popAll_26 : decode b_Ta_popAll 26 = .ok (.invokevirtual 36, 3) := by decide +kernel
theorem d_Ta_popAll_29 : decode b_Ta_popAll 29 = .ok (.ifCond .eq 9, 3) := by decide +kernel
theorem d_Ta_popAll_32 : decode b_Ta_popAll 32 = .ok (.aload_n 0, 1) := by decide +kernel
theorem d_Ta_popAll_33 : decode b_Ta_popAll 33 = .ok (.iload 4, 2) := by decide +kernel
theorem d_Ta_popAll_35 : decode b_Ta_popAll 35 = .ok (.invokevirtual 57, 3) := by decide +kernel
theorem d_Ta_popAll_38 : decode b_Ta_popAll 38 = .ok (.iinc 4 (-1), 3) := by decide +kernel
theorem d_Ta_popAll_41 : decode b_Ta_popAll 41 = .ok (.goto (-33), 3) := by decide +kernel
theorem d_Ta_popAll_44 : decode b_Ta_popAll 44 = .ok (.return_, 1) := by decide +kernel
theorem q_Ta_popAll : aw_q1 y_Ta_popAll b_Ta_popAll 5 none 3 := ⟨k_698, k_67, ⟨by decide, by decide, by decide +kernel⟩, by decide⟩
def y_Ta_remove : MethodName := ⟨"RescanDesk$Table", "remove", "(I)V"⟩
abbrev b_Ta_remove : ByteArray := prog_11_method_7_code
theorem d_Ta_remove_0 : decode b_Ta_remove 0 = .ok (.aload_n 0, 1) := by decide +kernel
theorem d_Ta_remove_1 : decode b_Ta_remove 1 = .ok (.getfield 11, 3) := by decide +kernel
theorem d_Ta_remove_4 : decode b_Ta_remove 4 = .ok (.iload_n 1, 1) := by decide +kernel
theorem d_Ta_remove_5 : decode b_Ta_remove 5 = .ok (.aaload, 1) := by decide +kernel
theorem d_Ta_remove_6 : decode b_Ta_remove 6 = .ok (.astore_n 2, 1) := by decide +kernel
theorem d_Ta_remove_7 : decode b_Ta_remove 7 = .ok (.iload_n 1, 1) := by decide +kernel
theorem d_Ta_remove_8 : decode b_Ta_remove 8 = .ok (.istore_n 3, 1) := by decide +kernel
theorem d_Ta_remove_9 : decode b_Ta_remove 9 = .ok (.iload_n 3, 1) := by decide +kernel
theorem d_Ta_remove_10 : decode b_Ta_remove 10 = .ok (.iconst 1, 1) := by decide +kernel
theorem d_Ta_remove_11 : decode b_Ta_remove 11 = .ok (.iadd, 1) := by decide +kernel
theorem d_Ta_remove_12 : decode b_Ta_remove 12 = .ok (.aload_n 0, 1) := by decide +kernel
theorem d_Ta_remove_13 : decode b_Ta_remove 13 = .ok (.getfield 18, 3) := by decide +kernel
theorem d_Ta_remove_16 : decode b_Ta_remove 16 = .ok (.if_icmp .ge 23, 3) := by decide +kernel
theorem d_Ta_remove_19 : decode b_Ta_remove 19 = .ok (.aload_n 0, 1) := by decide +kernel
theorem d_Ta_remove_20 : decode b_Ta_remove 20 = .ok (.getfield 11, 3) := by decide +kernel
theorem d_Ta_remove_23 : decode b_Ta_remove 23 = .ok (.iload_n 3, 1) := by decide +kernel
theorem d_Ta_remove_24 : decode b_Ta_remove 24 = .ok (.aload_n 0, 1) := by decide +kernel
theorem d_Ta_remove_25 : decode b_Ta_remove 25 = .ok (.getfield 11, 3) := by decide +kernel
theorem d_Ta_remove_28 : decode b_Ta_remove 28 = .ok (.iload_n 3, 1) := by decide +kernel
theorem d_Ta_remove_29 : decode b_Ta_remove 29 = .ok (.iconst 1, 1) := by decide +kernel
theorem d_Ta_remove_30 : decode b_Ta_remove 30 = .ok (.iadd, 1) := by decide +kernel
theorem d_Ta_remove_31 : decode b_Ta_remove 31 = .ok (.aaload, 1) := by decide +kernel
theorem d_Ta_remove_32 : decode b_Ta_remove 32 = .ok (.aastore, 1) := by decide +kernel
theorem d_Ta_remove_33 : decode b_Ta_remove 33 = .ok (.iinc 3 1, 3) := by decide +kernel
theorem d_Ta_remove_36 : decode b_Ta_remove 36 = .ok (.goto (-27), 3) := by decide +kernel
theorem d_Ta_remove_39 : decode b_Ta_remove 39 = .ok (.aload_n 0, 1) := by decide +kernel
theorem d_Ta_remove_40 : decode b_Ta_remove 40 = .ok (.dup, 1) := by decide +kernel
theorem d_Ta_remove_41 : decode b_Ta_remove 41 = .ok (.getfield 18, 3) := by decide +kernel
theorem d_Ta_remove_44 : decode b_Ta_remove 44 = .ok (.iconst 1, 1) := by decide +kernel
theorem d_Ta_remove_45 : decode b_Ta_remove 45 = .ok (.isub, 1) := by decide +kernel
theorem d_Ta_remove_46 : decode b_Ta_remove 46 = .ok (.putfield 18, 3) := by decide +kernel
theorem d_Ta_remove_49 : decode b_Ta_remove 49 = .ok (.aload_n 0, 1) := by decide +kernel
theorem d_Ta_remove_50 : decode b_Ta_remove 50 = .ok (.getfield 11, 3) := by decide +kernel
theorem d_Ta_remove_53 : decode b_Ta_remove 53 = .ok (.aload_n 0, 1) := by decide +kernel
theorem d_Ta_remove_54 : decode b_Ta_remove 54 = .ok (.getfield 18, 3) := by decide +kernel
theorem d_Ta_remove_57 : decode b_Ta_remove 57 = .ok (.aload_n 2, 1) := by decide +kernel
theorem d_Ta_remove_58 : decode b_Ta_remove 58 = .ok (.aastore, 1) := by decide +kernel
theorem d_Ta_remove_59 : decode b_Ta_remove 59 = .ok (.return_, 1) := by decide +kernel
theorem q_Ta_remove : aw_q1 y_Ta_remove b_Ta_remove 4 none 1 := ⟨k_694, k_67, ⟨by decide, by decide, by decide +kernel⟩, by decide⟩
def y_Ta_init : MethodName := ⟨"RescanDesk$Table", "<init>", "()V"⟩
abbrev b_Ta_init : ByteArray := prog_11_method_1_code
theorem d_Ta_init_0 : decode b_Ta_init 0 = .ok (.aload_n 0, 1) := by decide +kernel
theorem d_Ta_init_1 : decode b_Ta_init 1 = .ok (.invokespecial 3, 3) := by decide +kernel
theorem d_Ta_init_4 : decode b_Ta_init 4 = .ok (.aload_n 0, 1) := by decide +kernel
theorem d_Ta_init_5 : decode b_Ta_init 5 = .ok (.bipush 60, 2) := by decide +kernel
theorem d_Ta_init_7 : decode b_Ta_init 7 = .ok (.anewarray 9, 3) := by decide +kernel
theorem d_Ta_init_10 : decode b_Ta_init 10 = .ok (.putfield 11, 3) := by decide +kernel
theorem d_Ta_init_13 : decode b_Ta_init 13 = .ok (.iconst 0, 1) := by decide +kernel
theorem d_Ta_init_14 : decode b_Ta_init 14 = .ok (.istore_n 1, 1) := by decide +kernel
theorem d_Ta_init_15 : decode b_Ta_init 15 = .ok (.iload_n 1, 1) := by decide +kernel
theorem d_Ta_init_16 : decode b_Ta_init 16 = .ok (.bipush 60, 2) := by decide +kernel
theorem d_Ta_init_18 : decode b_Ta_init 18 = .ok (.if_icmp .ge 22, 3) := by decide +kernel
theorem d_Ta_init_21 : decode b_Ta_init 21 = .ok (.aload_n 0, 1) := by decide +kernel
theorem d_Ta_init_22 : decode b_Ta_init 22 = .ok (.getfield 11, 3) := by decide +kernel
theorem d_Ta_init_25 : decode b_Ta_init 25 = .ok (.iload_n 1, 1) := by decide +kernel
theorem d_Ta_init_26 : decode b_Ta_init 26 = .ok (.new 9, 3) := by decide +kernel
theorem d_Ta_init_29 : decode b_Ta_init 29 = .ok (.dup, 1) := by decide +kernel
theorem d_Ta_init_30 : decode b_Ta_init 30 = .ok (.invokespecial 17, 3) := by decide +kernel
theorem d_Ta_init_33 : decode b_Ta_init 33 = .ok (.aastore, 1) := by decide +kernel
theorem d_Ta_init_34 : decode b_Ta_init 34 = .ok (.iinc 1 1, 3) := by decide +kernel
theorem d_Ta_init_37 : decode b_Ta_init 37 = .ok (.goto (-22), 3) := by decide +kernel
theorem d_Ta_init_40 : decode b_Ta_init 40 = .ok (.aload_n 0, 1) := by decide +kernel
theorem d_Ta_init_41 : decode b_Ta_init 41 = .ok (.iconst 0, 1) := by decide +kernel
theorem d_Ta_init_42 : decode b_Ta_init 42 = .ok (.putfield 18, 3) := by decide +kernel
theorem d_Ta_init_45 : decode b_Ta_init 45 = .ok (.iconst 0, 1) := by decide +kernel
theorem d_Ta_init_46 : decode b_Ta_init 46 = .ok (.istore_n 1, 1) := by decide +kernel
theorem d_Ta_init_47 : decode b_Ta_init 47 = .ok (.iload_n 1, 1) := by decide +kernel
theorem d_Ta_init_48 : decode b_Ta_init 48 = .ok (.getstatic 22, 3) := by decide +kernel
theorem d_Ta_init_51 : decode b_Ta_init 51 = .ok (.arraylength, 1) := by decide +kernel
theorem d_Ta_init_52 : decode b_Ta_init 52 = .ok (.if_icmp .ge 39, 3) := by decide +kernel
theorem d_Ta_init_55 : decode b_Ta_init 55 = .ok (.iload_n 1, 1) := by decide +kernel
theorem d_Ta_init_56 : decode b_Ta_init 56 = .ok (.bipush 60, 2) := by decide +kernel
theorem d_Ta_init_58 : decode b_Ta_init 58 = .ok (.if_icmp .ge 33, 3) := by decide +kernel
theorem d_Ta_init_61 : decode b_Ta_init 61 = .ok (.aload_n 0, 1) := by decide +kernel
theorem d_Ta_init_62 : decode b_Ta_init 62 = .ok (.getfield 11, 3) := by decide +kernel
theorem d_Ta_init_65 : decode b_Ta_init 65 = .ok (.iload_n 1, 1) := by decide +kernel
theorem d_Ta_init_66 : decode b_Ta_init 66 = .ok (.aaload, 1) := by decide +kernel
theorem d_Ta_init_67 : decode b_Ta_init 67 = .ok (.getstatic 22, 3) := by decide +kernel
theorem d_Ta_init_70 : decode b_Ta_init 70 = .ok (.iload_n 1, 1) := by decide +kernel
theorem d_Ta_init_71 : decode b_Ta_init 71 = .ok (.aaload, 1) := by decide +kernel
theorem d_Ta_init_72 : decode b_Ta_init 72 = .ok (.invokevirtual 28, 3) := by decide +kernel
theorem d_Ta_init_75 : decode b_Ta_init 75 = .ok (.aload_n 0, 1) := by decide +kernel
theorem d_Ta_init_76 : decode b_Ta_init 76 = .ok (.dup, 1) := by decide +kernel
theorem d_Ta_init_77 : decode b_Ta_init 77 = .ok (.getfield 18, 3) := by decide +kernel
theorem d_Ta_init_80 : decode b_Ta_init 80 = .ok (.iconst 1, 1) := by decide +kernel
theorem d_Ta_init_81 : decode b_Ta_init 81 = .ok (.iadd, 1) := by decide +kernel
theorem d_Ta_init_82 : decode b_Ta_init 82 = .ok (.putfield 18, 3) := by decide +kernel
theorem d_Ta_init_85 : decode b_Ta_init 85 = .ok (.iinc 1 1, 3) := by decide +kernel
theorem d_Ta_init_88 : decode b_Ta_init 88 = .ok (.goto (-41), 3) := by decide +kernel
theorem d_Ta_init_91 : decode b_Ta_init 91 = .ok (.return_, 1) := by decide +kernel
theorem q_Ta_init : aw_q1 y_Ta_init b_Ta_init 2 none 0 := ⟨k_164, k_67, ⟨by decide, by decide, by decide +kernel⟩, by decide⟩
/-- a kind: 0 a body; k + 1 the constant of place k -/
def kV (G : aw_G) (k : Nat) : Value := match k with
  | 0 => .null
  | k + 1 => .ref (G.2.2.2.2 k)
theorem kV_nar (G : aw_G) (k : Nat) (n : String) : narrow (.object n) (kV G k) = kV G k := by cases k <;> rfl
theorem kV_fit (G : aw_G) (k : Nat) (n : String) : fits (.object n) (kV G k) = true := by cases k <;> rfl
def oDe (G : aw_G) (a k : Nat) : va_E := aObj 5 [rf G (a + 1), rf G (a + 3), kV G k]
abbrev Def : Type := List Nat × Nat × List Nat
def hDe (G : aw_G) (w : Nat → va_E) (a : Nat) (t : Def) : Prop := w a = oDe G a t.2.1 ∧ hTx G w (a + 1) 12 t.1 ∧ hTx G w (a + 3) 100 t.2.2
theorem hDe.keep {G : aw_G} {w w' : Nat → va_E} {a : Nat} {t : Def} {lo hi : Nat} (h : hDe G w a t) (hf : fr lo hi w w') (h1 : a + 5 ≤ lo ∨ hi ≤ a) : hDe G w' a t := ⟨(hf _ (by omega)).trans h.1, h.2.1.keep hf (by omega), h.2.2.keep hf (by omega)⟩
section
variable {G : aw_G} {nx d : Nat} {w : Nat → va_E}
theorem s_De_setBody {a q l u v : Nat} {t : Def} {f : Nat → Nat} (ha : a + 4 < nx) (hq : q < nx) (haq : q < a ∨ a + 5 ≤ q) (hd : 3 ≤ d) (hl : l < 2 ^ 20) (huv : u ≤ v) (hvl : v ≤ l) (hf : ∀ j, f j < 65536) (h : hDe G w a t) (h3 : w q = aCh G l f) : AC G y_De_setBody b_De_setBody 4 none d false [rf G a, rf G q, .int (nI u), .int (nI v)] nx w 0 0 (fun r w' nx' => nx' = nx ∧ r = none ∧ hDe G w' a (t.1, 0, (sl f u (v - u)).take 100) ∧ fr a (a + 5) w w') := by
  obtain ⟨h1, h2, h4⟩ := h
  have h1' : w a = aObj 5 [rf G (a + 1), rf G (a + 3), kV G t.2.1] := h1
  refine AC.ofW (by decide) (Nat.le_of_ble_eq_true rfl) ?_
  intro E P hP Y X
  have X : aw_X G "RescanDesk$Definition" b_De_setBody 4 none "setBody" _ _ _ _ _ E := X
  refine AW.eql (lv' := [(0, _), (1, _), (2, _), (3, _)]) (by rfl) ?_
  refine aw_aload_nR (pc := 0) X d_De_setBody_0 (by rfl) ?_
  refine aw_null (pc := 1) X d_De_setBody_1 ?_
  refine aw_putO (pc := 2) X _ 2 (by omega) (by (repeat (first | rw [aw_up_eq] | rw [aw_up_ne _ _ (by first | assumption | omega)])) <;> first | assumption | rfl) (by rfl) in_De (by decide) ty_De ok_De nm_De k_180 (by rfl) (by rfl) (by rfl) (by simp) (fs' := [_, _, _]) (by rfl) d_De_setBody_2 ?_
  refine aw_aload_nR (pc := 5) X d_De_setBody_5 (by rfl) ?_
  refine aw_getO (pc := 6) X _ 1 (by omega) (by (repeat (first | rw [aw_up_eq] | rw [aw_up_ne _ _ (by first | assumption | omega)])) <;> first | assumption | rfl) (by rfl) in_De (by decide) k_178 (by rfl) d_De_setBody_6 ?_
  refine aw_aload_nR (pc := 9) X d_De_setBody_9 (by rfl) ?_
  refine aw_iload_n (pc := 10) X d_De_setBody_10 (by rfl) ?_
  refine aw_iload_n (pc := 11) X d_De_setBody_11 (by rfl) ?_
  -- stop 12 lv=0:r,1:r,2:n,3:n st=n,n,r,r
  refine aw_callV (pc := 12) X _ (s_Tx_set (d := 2) (a := a + 3) (m := 100) (s := t.2.2) (q := q) (l := l) (f := f) (by omega) hq (by omega) (by omega) (by omega) hl huv hvl hf (h4.kept (by rw [aw_up_ne _ _ (by omega)]) (by rw [aw_up_ne _ _ (by omega)])) (by rw [aw_up_ne _ _ (by omega)]; exact h3)) q_Tx_set k_576 k_577 k_578 (by omega) (by rw [aw_up_ne _ _ (by omega)]; exact h4.obj) (by rfl) d_De_setBody_12 (by omega) (Nat.le_of_ble_eq_true rfl) ⟨by omega, by omega⟩ (fun h => by cases h) (fun r w' nx' hp => ?_)
  obtain ⟨rfl, rfl, ht, hf2⟩ := hp
  refine aw_vret Y X rfl d_De_setBody_15 (by omega) (by omega) (hP _ _ _ ?_)
  -- ret 15 lv=0:r,1:r,2:n,3:n st=
  have hfa : fr a (a + 5) w w' := ((fr.refl _ _ _).up _ (by omega)).trans (hf2.mono (by omega) (by omega))
  exact ⟨rfl, rfl, ⟨(hf2 _ (by omega)).trans (aw_up_eq _ _ _), h2.kept ((hf2 _ (by omega)).trans (by rw [aw_up_ne _ _ (by omega)])) ((hf2 _ (by omega)).trans (by rw [aw_up_ne _ _ (by omega)])), ht⟩, hfa⟩
theorem s_De_copy {a c : Nat} {t u : Def} (ha : a + 4 < nx) (hc : c + 4 < nx) (hac : c + 5 ≤ a ∨ a + 5 ≤ c) (hd : 3 ≤ d) (h : hDe G w a t) (h' : hDe G w c u) : AC G y_De_copy b_De_copy 2 none d false [rf G a, rf G c] nx w 0 0 (fun r w' nx' => nx' = nx ∧ r = none ∧ hDe G w' a u ∧ fr a (a + 5) w w') := by
  obtain ⟨h1, h2, h4⟩ := h
  have h1' : w a = aObj 5 [rf G (a + 1), rf G (a + 3), kV G t.2.1] := h1
  refine AC.ofW (by decide) (Nat.le_of_ble_eq_true rfl) ?_
  intro E P hP Y X
  have X : aw_X G "RescanDesk$Definition" b_De_copy 2 none "copy" _ _ _ _ _ E := X
  refine AW.eql (lv' := [(0, _), (1, _)]) (by rfl) ?_
  have k1' : w c = aObj 5 [rf G (c + 1), rf G (c + 3), kV G u.2.1] := h'.1
  refine aw_aload_nR (pc := 0) X d_De_copy_0 (by rfl) ?_
  refine aw_aload_nR (pc := 1) X d_De_copy_1 (by rfl) ?_
  refine aw_getO (pc := 2) X _ 2 (by omega) (by (repeat (first | rw [aw_up_eq] | rw [aw_up_ne _ _ (by first | assumption | omega)])) <;> first | assumption | rfl) (by rfl) in_De (by decide) k_180 (by rfl) d_De_copy_2 ?_
  refine aw_putO (pc := 5) X _ 2 (by omega) (by (repeat (first | rw [aw_up_eq] | rw [aw_up_ne _ _ (by first | assumption | omega)])) <;> first | assumption | rfl) (by rfl) in_De (by decide) ty_De ok_De nm_De k_180 (by rfl) (kV_nar G _ _) (kV_fit G _ _) (by simp) (fs' := [_, _, _]) (by rfl) d_De_copy_5 ?_
  -- stop 8 lv=0:r,1:r st=
  generalize hw1 : aw_up w a _ = w1
  have f1 : fr a (a + 5) w w1 := by rw [← hw1]; exact (fr.refl _ _ _).up _ (by omega)
  have a1 : w1 a = aObj 5 [rf G (a + 1), rf G (a + 3), kV G u.2.1] := by rw [← hw1]; exact aw_up_eq _ _ _
  have h2 : hTx G w1 (a + 1) 12 t.1 := h2.kept (by rw [← hw1, aw_up_ne _ _ (by omega)]) (by rw [← hw1, aw_up_ne _ _ (by omega)])
  have h4 : hTx G w1 (a + 3) 100 t.2.2 := h4.kept (by rw [← hw1, aw_up_ne _ _ (by omega)]) (by rw [← hw1, aw_up_ne _ _ (by omega)])
  have hc1 : hDe G w1 c u := h'.keep f1 (by omega)
  obtain ⟨k1, k2, k4⟩ := hc1
  have k1' : w1 c = aObj 5 [rf G (c + 1), rf G (c + 3), kV G u.2.1] := k1
  obtain ⟨g1, en2, en3, en5⟩ := k2.arr
  have en1 := k2.obj
  have eb1 := k4.obj
  refine aw_aload_nR (pc := 8) X d_De_copy_8 (by rfl) ?_
  refine aw_getO (pc := 9) X _ 0 (by omega) (by (repeat (first | rw [aw_up_eq] | rw [aw_up_ne _ _ (by first | assumption | omega)])) <;> first | assumption | rfl) (by rfl) in_De (by decide) k_175 (by rfl) d_De_copy_9 ?_
  refine aw_aload_nR (pc := 12) X d_De_copy_12 (by rfl) ?_
  refine aw_getO (pc := 13) X _ 0 (by omega) (by (repeat (first | rw [aw_up_eq] | rw [aw_up_ne _ _ (by first | assumption | omega)])) <;> first | assumption | rfl) (by rfl) in_De (by decide) k_175 (by rfl) d_De_copy_13 ?_
  refine aw_getNO (pc := 16) X _ 0 (by omega) (by (repeat (first | rw [aw_up_eq] | rw [aw_up_ne _ _ (by first | assumption | omega)])) <;> first | assumption | rfl) (by rfl) in_Tx (by decide) k_107 (by rfl) d_De_copy_16 ?_
  refine aw_iconstN (pc := 19) X 0 d_De_copy_19 (by decide) ?_
  refine aw_aload_nR (pc := 20) X d_De_copy_20 (by rfl) ?_
  refine aw_getO (pc := 21) X _ 0 (by omega) (by (repeat (first | rw [aw_up_eq] | rw [aw_up_ne _ _ (by first | assumption | omega)])) <;> first | assumption | rfl) (by rfl) in_De (by decide) k_175 (by rfl) d_De_copy_21 ?_
  refine aw_getNO (pc := 24) X _ 1 (by omega) (by (repeat (first | rw [aw_up_eq] | rw [aw_up_ne _ _ (by first | assumption | omega)])) <;> first | assumption | rfl) (by rfl) in_Tx (by decide) k_117 (by rfl) d_De_copy_24 ?_
  -- stop 27 lv=0:r,1:r st=n,n,r,r
  refine aw_callV (pc := 27) X _ (s_Tx_set (d := 2) (a := a + 1) (m := 12) (s := t.1) (q := c + 1 + 1) (l := 12) (f := g1) (u := 0) (v := u.1.length) (by omega) (by omega) (by omega) (by omega) (by omega) (by omega) (by omega) k2.le en5 h2 en2) q_Tx_set k_576 k_577 k_578 (by omega) h2.obj (by rfl) d_De_copy_27 (by omega) (Nat.le_of_ble_eq_true rfl) ⟨by omega, by omega⟩ (fun h => by cases h) (fun r w2 nx2 hp => ?_)
  obtain ⟨rfl, rfl, ht, hf2⟩ := hp
  rw [Nat.sub_zero, ← en3, List.take_of_length_le k2.le] at ht
  have a2 : w2 a = aObj 5 [rf G (a + 1), rf G (a + 3), kV G u.2.1] := (hf2 _ (by omega)).trans a1
  have h5 : hTx G w2 (a + 3) 100 t.2.2 := h4.keep hf2 (by omega)
  have k6 : w2 c = aObj 5 [rf G (c + 1), rf G (c + 3), kV G u.2.1] := (hf2 _ (by omega)).trans k1'
  have k5 : hTx G w2 (c + 3) 100 u.2.2 := k4.keep hf2 (by omega)
  obtain ⟨g2, eb2, eb3, eb5⟩ := k5.arr
  have eb1 := k5.obj
  refine aw_aload_nR (pc := 30) X d_De_copy_30 (by rfl) ?_
  refine aw_getO (pc := 31) X _ 1 (by omega) (by (repeat (first | rw [aw_up_eq] | rw [aw_up_ne _ _ (by first | assumption | omega)])) <;> first | assumption | rfl) (by rfl) in_De (by decide) k_178 (by rfl) d_De_copy_31 ?_
  refine aw_aload_nR (pc := 34) X d_De_copy_34 (by rfl) ?_
  refine aw_getO (pc := 35) X _ 1 (by omega) (by (repeat (first | rw [aw_up_eq] | rw [aw_up_ne _ _ (by first | assumption | omega)])) <;> first | assumption | rfl) (by rfl) in_De (by decide) k_178 (by rfl) d_De_copy_35 ?_
  refine aw_getNO (pc := 38) X _ 0 (by omega) (by (repeat (first | rw [aw_up_eq] | rw [aw_up_ne _ _ (by first | assumption | omega)])) <;> first | assumption | rfl) (by rfl) in_Tx (by decide) k_107 (by rfl) d_De_copy_38 ?_
  refine aw_iconstN (pc := 41) X 0 d_De_copy_41 (by decide) ?_
  refine aw_aload_nR (pc := 42) X d_De_copy_42 (by rfl) ?_
  refine aw_getO (pc := 43) X _ 1 (by omega) (by (repeat (first | rw [aw_up_eq] | rw [aw_up_ne _ _ (by first | assumption | omega)])) <;> first | assumption | rfl) (by rfl) in_De (by decide) k_178 (by rfl) d_De_copy_43 ?_
  refine aw_getNO (pc := 46) X _ 1 (by omega) (by (repeat (first | rw [aw_up_eq] | rw [aw_up_ne _ _ (by first | assumption | omega)])) <;> first | assumption | rfl) (by rfl) in_Tx (by decide) k_117 (by rfl) d_De_copy_46 ?_
  -- stop 49 lv=0:r,1:r st=n,n,r,r
  refine aw_callV (pc := 49) X _ (s_Tx_set (d := 2) (a := a + 3) (m := 100) (s := t.2.2) (q := c + 3 + 1) (l := 100) (f := g2) (u := 0) (v := u.2.2.length) (by omega) (by omega) (by omega) (by omega) (by omega) (by omega) (by omega) k5.le eb5 h5 eb2) q_Tx_set k_576 k_577 k_578 (by omega) h5.obj (by rfl) d_De_copy_49 (by omega) (Nat.le_of_ble_eq_true rfl) ⟨by omega, by omega⟩ (fun h => by cases h) (fun r w3 nx3 hp => ?_)
  obtain ⟨rfl, rfl, ht3, hf3⟩ := hp
  rw [Nat.sub_zero, ← eb3, List.take_of_length_le k5.le] at ht3
  refine aw_vret Y X rfl d_De_copy_52 (by omega) (by omega) (hP _ _ _ ?_)
  -- ret 52 lv=0:r,1:r st=
  exact ⟨rfl, rfl, ⟨(hf3 _ (by omega)).trans a2, ht.keep hf3 (by omega), ht3⟩, f1.trans ((hf2.mono (by omega) (by omega)).trans (hf3.mono (by omega) (by omega)))⟩
end
end
section
/-! RescanDesk$Table -/
/-- a count that goes down to -1 -/
def dV (i : Nat) : Int32 := match i with
  | 0 => -1
  | i + 1 => nI i
theorem dV_sub (n : Nat) : nI n - nI 1 = dV n := by
  cases n with
  | zero => decide
  | succ n => exact pk_sub (a := n + 1) (b := 1) (by omega)
theorem dV_dec (i : Nat) : nI i + Int32.ofInt (-1) = dV i := by
  rw [← dV_sub, Int32.sub_eq_add_neg]
  rfl
/-- the place of the last definition of that name below place i -/
def tfd (T : List Def) (s : List Nat) : Nat → Option Nat
  | 0 => none
  | i + 1 => if (T[i]?).map (fun t => t.1) = some s then some i else tfd T s i
def tfind (T : List Def) (s : List Nat) : Option Nat := tfd T s T.length
theorem tfd_lt {T : List Def} {s : List Nat} : ∀ {i k : Nat}, tfd T s i = some k → k < i
  | 0, k, h => by cases h
  | i + 1, k, h => by
    unfold tfd at h
    split at h
    · cases h; omega
    · have := tfd_lt h; omega
/-- the table: f the array, g the places of its definitions -/
def hTaP (G : aw_G) (w : Nat → va_E) (T : List Def) (f : Nat → Option Nat) (g : Nat → Nat) : Prop :=
  T.length ≤ 60 ∧ w 15 = aObj 4 [rf G 16, .int (nI T.length)] ∧ w 16 = aRefs (G.2.2.2.1 5) 60 f ∧ (∀ i, i < 60 → f i = some (G.2.2.1 + (17 + 5 * g i)) ∧ g i < 60) ∧ (∀ i j, i < 60 → j < 60 → g i = g j → i = j) ∧ ∀ i, i < 60 → ∃ t : Def, hDe G w (17 + 5 * g i) t ∧ t.2.1 ≤ 16 ∧ ∀ u, T[i]? = some u → u = t
def hTa (G : aw_G) (w : Nat → va_E) (T : List Def) : Prop := ∃ f g, hTaP G w T f g
theorem hTaP.at {G : aw_G} {w : Nat → va_E} {T : List Def} {f : Nat → Option Nat} {g : Nat → Nat} (h : hTaP G w T f g) {i : Nat} {t : Def} (ht : T[i]? = some t) : hDe G w (17 + 5 * g i) t := by
  have hi : i < T.length := (List.getElem?_eq_some_iff.mp ht).1
  obtain ⟨u, h1, -, h2⟩ := h.2.2.2.2.2 i (by have := h.1; omega)
  rw [h2 t ht]
  exact h1
theorem hTaP.keep {G : aw_G} {w w' : Nat → va_E} {T : List Def} {f : Nat → Option Nat} {g : Nat → Nat} {lo hi : Nat} (h : hTaP G w T f g) (hf : fr lo hi w w') (h1 : hi ≤ 15 ∨ 317 ≤ lo) : hTaP G w' T f g := by
  obtain ⟨a1, a2, a3, a4, a5, a6⟩ := h
  refine ⟨a1, (hf _ (by omega)).trans a2, (hf _ (by omega)).trans a3, a4, a5, fun i hi => ?_⟩
  obtain ⟨t, b1, b2⟩ := a6 i hi
  have := (a4 i hi).2
  exact ⟨t, b1.keep hf (by omega), b2⟩
theorem hTa.keep {G : aw_G} {w w' : Nat → va_E} {T : List Def} {lo hi : Nat} (h : hTa G w T) (hf : fr lo hi w w') (h1 : hi ≤ 15 ∨ 317 ≤ lo) : hTa G w' T := by
  obtain ⟨f, g, h⟩ := h
  exact ⟨f, g, h.keep hf h1⟩
/-- a definition of the table has become another -/
theorem hTaP.set {G : aw_G} {w w' : Nat → va_E} {T : List Def} {f : Nat → Option Nat} {g : Nat → Nat} {i : Nat} {t : Def} (h : hTaP G w T f g) (hi : i < T.length) (ht : hDe G w' (17 + 5 * g i) t) (hk : t.2.1 ≤ 16) (hf : fr (17 + 5 * g i) (17 + 5 * g i + 5) w w') : hTaP G w' (T.set i t) f g := by
  obtain ⟨a1, a2, a3, a4, a5, a6⟩ := h
  refine ⟨by rw [List.length_set]; exact a1, by rw [List.length_set]; exact (hf _ (by omega)).trans a2, (hf _ (by omega)).trans a3, a4, a5, fun j hj => ?_⟩
  by_cases e : j = i
  · subst e
    refine ⟨t, ht, hk, fun u hu => ?_⟩
    rw [List.getElem?_set_self hi] at hu
    exact (Option.some.inj hu).symm
  · obtain ⟨u, b1, b2, b3⟩ := a6 j hj
    refine ⟨u, b1.keep hf ?_, b2, fun v hv => b3 v ?_⟩
    · have : g j ≠ g i := fun q => e (a5 j i hj (by omega) q)
      omega
    · rwa [List.getElem?_set_ne (Ne.symm e)] at hv
section
variable {G : aw_G} {nx d : Nat} {w : Nat → va_E}
theorem s_Ta_topmost {T : List Def} {q l u v : Nat} {f : Nat → Nat} (hnx : 317 ≤ nx) (hq : q < nx) (hd : 1 ≤ d) (hl : l < 2 ^ 20) (huv : u ≤ v) (hvl : v ≤ l) (hf : ∀ j, f j < 65536) (h : hTa G w T) (h3 : w q = aCh G l f) : AC G y_Ta_topmost b_Ta_topmost 5 (some .int) d false [rf G 15, rf G q, .int (nI u), .int (nI v)] nx w 0 0 (fun r w' nx' => nx' = nx ∧ w' = w ∧ r = some (.int (pV (tfind T (sl f u (v - u)))))) := by
  obtain ⟨fa, g, h⟩ := h
  obtain ⟨a1, a2, a3, a4, a5, a6⟩ := id h
  refine AC.ofW (by decide) (Nat.le_of_ble_eq_true rfl) ?_
  intro E P hP Y X
  have X : aw_X G "RescanDesk$Table" b_Ta_topmost 5 (some .int) "topmost" _ _ _ _ _ E := X
  refine AW.eql (lv' := [(0, _), (1, _), (2, _), (3, _)]) (by rfl) ?_
  have L : ∀ i, i ≤ T.length → tfd T (sl f u (v - u)) i = tfind T (sl f u (v - u)) → AW G E 5 nx 0 0 w 8 [(4, .int (dV i)), (0, rf G 15), (1, rf G q), (2, .int (nI u)), (3, .int (nI v))] [] := by
    intro i
    induction i with
    | zero =>
      intro hi hr
      refine aw_iload (pc := 8) X d_Ta_topmost_8 (by rfl) ?_
      refine aw_if_lt (pc := 10) X (tgt := 41) d_Ta_topmost_10 (by rfl) (fun h10 => ?_) (fun h10 => ?_)
      -- br 10 lv=4:i,0:r,1:r,2:n,3:n st=
      · refine aw_iconst (pc := 41) X (v := -1) d_Ta_topmost_41 (by decide) ?_
        refine aw_iret Y X rfl d_Ta_topmost_42 (by omega) (by omega) (hP _ _ _ ?_)
        -- ret 42 lv=4:i,0:r,1:r,2:n,3:n st=i
        exact ⟨rfl, rfl, by rw [← hr]; rfl⟩
      · exact absurd (show (-1 : Int32) < 0 by decide) h10
    | succ i ih =>
      intro hi hr
      obtain ⟨b1, b2⟩ := a4 i (by omega)
      have hti : T[i]? = some T[i] := List.getElem?_eq_getElem (by omega)
      obtain ⟨c1, c2, c3⟩ := h.at hti
      have c1' : w (17 + 5 * g i) = aObj 5 [rf G (17 + 5 * g i + 1), rf G (17 + 5 * g i + 3), kV G T[i].2.1] := c1
      refine AW.eql (lv' := [(4, .int (nI i)), (0, rf G 15), (1, rf G q), (2, .int (nI u)), (3, .int (nI v))]) rfl ?_
      refine aw_iload (pc := 8) X d_Ta_topmost_8 (by rfl) ?_
      refine aw_if_ltN (pc := 10) X (tgt := 41) d_Ta_topmost_10 (by rfl) (by omega) ?_
      refine aw_aload_nR (pc := 13) X d_Ta_topmost_13 (by rfl) ?_
      refine aw_getO (pc := 14) X _ 0 (by omega) (by (repeat (first | rw [aw_up_eq] | rw [aw_up_ne _ _ (by first | assumption | omega)])) <;> first | assumption | rfl) (by rfl) in_Ta (by decide) k_251 (by rfl) d_Ta_topmost_14 ?_
      refine aw_iload (pc := 17) X d_Ta_topmost_17 (by rfl) ?_
      refine aw_aaldN (pc := 19) X _ 5 (by omega) (by (repeat (first | rw [aw_up_eq] | rw [aw_up_ne _ _ (by first | assumption | omega)])) <;> first | assumption | rfl) (by rfl) (by omega) (by omega) (by assumption) d_Ta_topmost_19 ?_
      refine aw_getNO (pc := 20) X _ 0 (by omega) (by (repeat (first | rw [aw_up_eq] | rw [aw_up_ne _ _ (by first | assumption | omega)])) <;> first | assumption | rfl) (by rfl) in_De (by decide) k_176 (by rfl) d_Ta_topmost_20 ?_
      refine aw_aload_nR (pc := 23) X d_Ta_topmost_23 (by rfl) ?_
      refine aw_iload_n (pc := 24) X d_Ta_topmost_24 (by rfl) ?_
      refine aw_iload_n (pc := 25) X d_Ta_topmost_25 (by rfl) ?_
      -- invokevirtual 26 lv=4:n,0:r,1:r,2:n,3:n st=n,n,r,r
      refine aw_callV (pc := 26) X _ (s_Tx_isSame (d := 0) (a := 17 + 5 * g i + 1) (m := 12) (by omega) hq (by omega) hl huv hvl hf c2 h3) q_Tx_isSame k_419 k_420 k_421 (by omega) c2.obj (by rfl) d_Ta_topmost_26 (by omega) (Nat.le_of_ble_eq_true rfl) ⟨by omega, by omega⟩ (fun h => by cases h) (fun r w2 nx2 hp => ?_)
      obtain ⟨rfl, rfl, rfl⟩ := hp
      have hb := bN_lt (decide (T[i].1 = sl f u (v - u)))
      rw [tfd, hti] at hr
      refine aw_if_eqN (pc := 29) X (tgt := 35) d_Ta_topmost_29 (by rfl) (by omega) (fun h29 => ?_) (fun h29 => ?_)
      -- br 29 lv=4:n,0:r,1:r,2:n,3:n st=
      · have hne := of_decide_eq_false (bN_eq.mp h29)
        rw [if_neg (by simpa using hne)] at hr
        refine aw_iinc (pc := 35) X (v := dV i) (lv' := [(4, _), (0, _), (1, _), (2, _), (3, _)]) d_Ta_topmost_35 (by rfl) (dV_dec i) (by decide) (by rfl) ?_
        refine aw_goto (pc := 38) X (tgt := 8) d_Ta_topmost_38 (by rfl) ?_
        -- stop 8 lv=4:i,0:r,1:r,2:n,3:n st=
        exact ih (by omega) hr
      · have he := of_decide_eq_true (bN_ne.mp h29)
        rw [if_pos (by simpa using he)] at hr
        refine aw_iload (pc := 32) X d_Ta_topmost_32 (by rfl) ?_
        refine aw_iret Y X rfl d_Ta_topmost_34 (by omega) (by omega) (hP _ _ _ ?_)
        -- ret 34 lv=4:n,0:r,1:r,2:n,3:n st=n
        exact ⟨rfl, rfl, by rw [← hr]; rfl⟩
  refine aw_aload_nR (pc := 0) X d_Ta_topmost_0 (by rfl) ?_
  refine aw_getO (pc := 1) X _ 1 (by omega) (by (repeat (first | rw [aw_up_eq] | rw [aw_up_ne _ _ (by first | assumption | omega)])) <;> first | assumption | rfl) (by rfl) in_Ta (by decide) k_254 (by rfl) d_Ta_topmost_1 ?_
  refine aw_iconstN (pc := 4) X 1 d_Ta_topmost_4 (by decide) ?_
  -- stop 5 lv=0:r,1:r,2:n,3:n st=n,n
  refine aw_isub (pc := 5) X d_Ta_topmost_5 ?_
  rw [dV_sub]
  refine aw_istore (pc := 6) X (lv' := [(4, _), (0, _), (1, _), (2, _), (3, _)]) d_Ta_topmost_6 (by decide) (by rfl) ?_
  -- stop 8 lv=4:i,0:r,1:r,2:n,3:n st=
  exact L T.length (Nat.le_refl _) rfl
/-- how many names there are -/
def mcount (T : List Def) : Nat → Nat
  | 0 => 0
  | i + 1 => mcount T i + (if (T[i]?).bind (fun t => tfind T t.1) = some i then 1 else 0)
theorem mcount_le (T : List Def) : ∀ i, mcount T i ≤ i
  | 0 => Nat.le_refl _
  | i + 1 => by unfold mcount; have := mcount_le T i; split <;> omega
theorem pV_inj {o : Option Nat} {i : Nat} (ho : ∀ k, o = some k → k < 2 ^ 31) (hi : i < 2 ^ 31) : pV o = nI i ↔ o = some i := by
  cases o with
  | none =>
    refine ⟨fun h => absurd h ?_, fun h => by cases h⟩
    intro h
    have := congrArg Int32.toInt h
    rw [nI_toInt hi] at this
    have e : (pV none).toInt = -1 := by decide
    omega
  | some k =>
    have := ho k rfl
    exact ⟨fun h => by rw [(nI_eq this hi).mp h], fun h => by cases h; rfl⟩
theorem s_Ta_macros {T : List Def} (hnx : 317 ≤ nx) (hd : 2 ≤ d) (h : hTa G w T) : AC G y_Ta_macros b_Ta_macros 4 (some .int) d false [rf G 15] nx w 0 0 (fun r w' nx' => nx' = nx ∧ w' = w ∧ r = some (.int (nI (mcount T T.length)))) := by
  have h0 := h
  obtain ⟨fa, g, h⟩ := h
  obtain ⟨a1, a2, a3, a4, a5, a6⟩ := id h
  refine AC.ofW (by decide) (Nat.le_of_ble_eq_true rfl) ?_
  intro E P hP Y X
  have X : aw_X G "RescanDesk$Table" b_Ta_macros 4 (some .int) "macros" _ _ _ _ _ E := X
  refine AW.eql (lv' := [(0, _)]) (by rfl) ?_
  have L : ∀ (k i : Nat) (x : List (Nat × Value)), i + k = T.length → AW G E 4 nx 0 0 w 4 [(2, .int (nI i)), (1, .int (nI (mcount T i))), (0, rf G 15)] [] := by
    intro k
    induction k with
    | zero =>
      intro i x hi
      refine aw_iload_n (pc := 4) X d_Ta_macros_4 (by rfl) ?_
      refine aw_aload_nR (pc := 5) X d_Ta_macros_5 (by rfl) ?_
      refine aw_getO (pc := 6) X _ 1 (by omega) (by (repeat (first | rw [aw_up_eq] | rw [aw_up_ne _ _ (by first | assumption | omega)])) <;> first | assumption | rfl) (by rfl) in_Ta (by decide) k_254 (by rfl) d_Ta_macros_6 ?_
      refine aw_icmp_geN (pc := 9) X (tgt := 48) d_Ta_macros_9 (by rfl) (by omega) (by omega) (fun h9 => ?_) (fun h9 => ?_)
      -- br 9 lv=2:n,1:n,0:r st=
      · refine aw_iload_n (pc := 48) X d_Ta_macros_48 (by rfl) ?_
        refine aw_iret Y X rfl d_Ta_macros_49 (by omega) (by omega) (hP _ _ _ ?_)
        -- ret 49 lv=2:n,1:n,0:r st=n
        exact ⟨rfl, rfl, by rw [show i = T.length by omega]⟩
      · omega
    | succ k ih =>
      intro i x hi
      have hml := mcount_le T i
      obtain ⟨b1, b2⟩ := a4 i (by omega)
      have hti : T[i]? = some T[i] := List.getElem?_eq_getElem (by omega)
      obtain ⟨c1, c2, c3⟩ := h.at hti
      have c1' : w (17 + 5 * g i) = aObj 5 [rf G (17 + 5 * g i + 1), rf G (17 + 5 * g i + 3), kV G T[i].2.1] := c1
      obtain ⟨gn, e2, e3, e5⟩ := c2.arr
      have e1 := c2.obj
      refine aw_iload_n (pc := 4) X d_Ta_macros_4 (by rfl) ?_
      refine aw_aload_nR (pc := 5) X d_Ta_macros_5 (by rfl) ?_
      refine aw_getO (pc := 6) X _ 1 (by omega) (by (repeat (first | rw [aw_up_eq] | rw [aw_up_ne _ _ (by first | assumption | omega)])) <;> first | assumption | rfl) (by rfl) in_Ta (by decide) k_254 (by rfl) d_Ta_macros_6 ?_
      refine aw_icmp_geN (pc := 9) X (tgt := 48) d_Ta_macros_9 (by rfl) (by omega) (by omega) (fun h9 => ?_) (fun h9 => ?_)
      -- br 9 lv=2:n,1:n,0:r st=
      · omega
      · refine aw_aload_nR (pc := 12) X d_Ta_macros_12 (by rfl) ?_
        refine aw_getO (pc := 13) X _ 0 (by omega) (by (repeat (first | rw [aw_up_eq] | rw [aw_up_ne _ _ (by first | assumption | omega)])) <;> first | assumption | rfl) (by rfl) in_Ta (by decide) k_251 (by rfl) d_Ta_macros_13 ?_
        refine aw_iload_n (pc := 16) X d_Ta_macros_16 (by rfl) ?_
        refine aw_aaldN (pc := 17) X _ 5 (by omega) (by (repeat (first | rw [aw_up_eq] | rw [aw_up_ne _ _ (by first | assumption | omega)])) <;> first | assumption | rfl) (by rfl) (by omega) (by omega) (by assumption) d_Ta_macros_17 ?_
        refine aw_getNO (pc := 18) X _ 0 (by omega) (by (repeat (first | rw [aw_up_eq] | rw [aw_up_ne _ _ (by first | assumption | omega)])) <;> first | assumption | rfl) (by rfl) in_De (by decide) k_176 (by rfl) d_Ta_macros_18 ?_
        refine aw_astore_nR (pc := 21) X (lv' := [(3, _), (2, _), (1, _), (0, _)]) d_Ta_macros_21 (by decide) (by rfl) ?_
        refine aw_aload_nR (pc := 22) X d_Ta_macros_22 (by rfl) ?_
        refine aw_aload_nR (pc := 23) X d_Ta_macros_23 (by rfl) ?_
        refine aw_getNO (pc := 24) X _ 0 (by omega) (by (repeat (first | rw [aw_up_eq] | rw [aw_up_ne _ _ (by first | assumption | omega)])) <;> first | assumption | rfl) (by rfl) in_Tx (by decide) k_105 (by rfl) d_Ta_macros_24 ?_
        refine aw_iconstN (pc := 27) X 0 d_Ta_macros_27 (by decide) ?_
        refine aw_aload_nR (pc := 28) X d_Ta_macros_28 (by rfl) ?_
        refine aw_getNO (pc := 29) X _ 1 (by omega) (by (repeat (first | rw [aw_up_eq] | rw [aw_up_ne _ _ (by first | assumption | omega)])) <;> first | assumption | rfl) (by rfl) in_Tx (by decide) k_115 (by rfl) d_Ta_macros_29 ?_
        -- invokevirtual 32 lv=3:r,2:n,1:n,0:r st=n,n,r,r
        refine aw_callV (pc := 32) X _ (s_Ta_topmost (d := 1) (q := 17 + 5 * g i + 1 + 1) (l := 12) (f := gn) (u := 0) (v := T[i].1.length) hnx (by omega) (by omega) (by omega) (by omega) c2.le e5 h0 e2) q_Ta_topmost k_415 k_416 k_417 (by omega) a2 (by rfl) d_Ta_macros_32 (by omega) (Nat.le_of_ble_eq_true rfl) ⟨by omega, by omega⟩ (fun h => by cases h) (fun r w2 nx2 hp => ?_)
        obtain ⟨rfl, rfl, rfl⟩ := hp
        rw [Nat.sub_zero, ← e3]
        have hm : mcount T (i + 1) = mcount T i + (if tfind T T[i].1 = some i then 1 else 0) := by rw [mcount, hti]; rfl
        have hlt : ∀ k, tfind T T[i].1 = some k → k < 2 ^ 31 := fun k hk => by have := tfd_lt hk; omega
        refine aw_iload_n (pc := 35) X d_Ta_macros_35 (by rfl) ?_
        refine aw_icmp_ne (pc := 36) X (tgt := 42) d_Ta_macros_36 (by rfl) (fun h36 => ?_) (fun h36 => ?_)
        -- br 36 lv=3:r,2:n,1:n,0:r st=
        · have hm2 : mcount T (i + 1) = mcount T i := by rw [hm, if_neg (fun q => h36 ((pV_inj hlt (by omega)).mpr q))]; rfl
          refine aw_iincN (pc := 42) X 1 (lv' := [(2, _), (3, _), (1, _), (0, _)]) d_Ta_macros_42 (by rfl) (by decide) (by decide) (by rfl) ?_
          refine aw_goto (pc := 45) X (tgt := 4) d_Ta_macros_45 (by rfl) ?_
          -- stop 4 lv=2:n,3:r,1:n,0:r st=
          rw [← hm2]
          refine AW.lsub [0, 2, 3] (by rfl) ?_
          exact ih (i + 1) [] (by omega)
        · rw [if_pos ((pV_inj hlt (by omega)).mp h36)] at hm
          refine aw_iincN (pc := 39) X 1 (lv' := [(1, _), (3, _), (2, _), (0, _)]) d_Ta_macros_39 (by rfl) (by decide) (by decide) (by rfl) ?_
          refine aw_iincN (pc := 42) X 1 (lv' := [(2, _), (1, _), (3, _), (0, _)]) d_Ta_macros_42 (by rfl) (by decide) (by decide) (by rfl) ?_
          refine aw_goto (pc := 45) X (tgt := 4) d_Ta_macros_45 (by rfl) ?_
          -- stop 4 lv=2:n,1:n,3:r,0:r st=
          rw [← hm]
          refine AW.lsub [0, 1, 3] (by rfl) ?_
          exact ih (i + 1) [] (by omega)
  refine aw_iconstN (pc := 0) X 0 d_Ta_macros_0 (by decide) ?_
  refine aw_istore_n (pc := 1) X (lv' := [(1, _), (0, _)]) d_Ta_macros_1 (by decide) (by rfl) ?_
  refine aw_iconstN (pc := 2) X 0 d_Ta_macros_2 (by decide) ?_
  refine aw_istore_n (pc := 3) X (lv' := [(2, _), (1, _), (0, _)]) d_Ta_macros_3 (by decide) (by rfl) ?_
  -- stop 4 lv=2:n,1:n,0:r st=
  exact L T.length 0 [] (by omega)
/-- a new definition on top, its body still to be set -/
theorem s_Ta_push {T : List Def} {fa : Nat → Option Nat} {g : Nat → Nat} {q l u v : Nat} {f : Nat → Nat} (hnx : 317 ≤ nx) (hq : q < nx) (hq2 : 317 ≤ q) (hd : 3 ≤ d) (hl : l < 2 ^ 20) (huv : u ≤ v) (hvl : v ≤ l) (hf : ∀ j, f j < 65536) (h : hTaP G w T fa g) (h3 : w q = aCh G l f) : AC G y_Ta_push b_Ta_push 5 (some (.object "RescanDesk$Definition")) d false [rf G 15, rf G q, .int (nI u), .int (nI v)] nx w 0 0 (fun r w' nx' => nx' = nx ∧ ((60 ≤ T.length ∧ w' = w ∧ r = some .null) ∨ (T.length < 60 ∧ r = some (rf G (17 + 5 * g T.length)) ∧ (∃ t : Def, hTaP G w' (T ++ [((sl f u (v - u)).take 12, t.2)]) fa g) ∧ fr 15 317 w w'))) := by
  have h0 := h
  obtain ⟨a1, a2, a3, a4, a5, a6⟩ := h
  refine AC.ofW (by decide) (Nat.le_of_ble_eq_true rfl) ?_
  intro E P hP Y X
  have X : aw_X G "RescanDesk$Table" b_Ta_push 5 (some (.object "RescanDesk$Definition")) "push" _ _ _ _ _ E := X
  refine AW.eql (lv' := [(0, _), (1, _), (2, _), (3, _)]) (by rfl) ?_
  refine aw_aload_nR (pc := 0) X d_Ta_push_0 (by rfl) ?_
  refine aw_getO (pc := 1) X _ 1 (by omega) (by (repeat (first | rw [aw_up_eq] | rw [aw_up_ne _ _ (by first | assumption | omega)])) <;> first | assumption | rfl) (by rfl) in_Ta (by decide) k_254 (by rfl) d_Ta_push_1 ?_
  refine aw_bipushN (pc := 4) X 60 d_Ta_push_4 (by decide) ?_
  refine aw_icmp_ltN (pc := 6) X (tgt := 11) d_Ta_push_6 (by rfl) (by omega) (by omega) (fun h6 => ?_) (fun h6 => ?_)
  -- br 6 lv=0:r,1:r,2:n,3:n st=
  · obtain ⟨b1, b2⟩ := a4 T.length h6
    obtain ⟨t, c0, c4, c5⟩ := a6 T.length h6
    obtain ⟨c1, c2, c3⟩ := c0
    have c1' : w (17 + 5 * g T.length) = aObj 5 [rf G (17 + 5 * g T.length + 1), rf G (17 + 5 * g T.length + 3), kV G t.2.1] := c1
    refine aw_aload_nR (pc := 11) X d_Ta_push_11 (by rfl) ?_
    refine aw_getO (pc := 12) X _ 0 (by omega) (by (repeat (first | rw [aw_up_eq] | rw [aw_up_ne _ _ (by first | assumption | omega)])) <;> first | assumption | rfl) (by rfl) in_Ta (by decide) k_251 (by rfl) d_Ta_push_12 ?_
    refine aw_aload_nR (pc := 15) X d_Ta_push_15 (by rfl) ?_
    refine aw_getO (pc := 16) X _ 1 (by omega) (by (repeat (first | rw [aw_up_eq] | rw [aw_up_ne _ _ (by first | assumption | omega)])) <;> first | assumption | rfl) (by rfl) in_Ta (by decide) k_254 (by rfl) d_Ta_push_16 ?_
    refine aw_aaldN (pc := 19) X _ 5 (by omega) (by (repeat (first | rw [aw_up_eq] | rw [aw_up_ne _ _ (by first | assumption | omega)])) <;> first | assumption | rfl) (by rfl) (by omega) (by omega) (by assumption) d_Ta_push_19 ?_
    refine aw_astoreR (pc := 20) X (lv' := [(4, _), (0, _), (1, _), (2, _), (3, _)]) d_Ta_push_20 (by decide) (by rfl) ?_
    refine aw_aloadR (pc := 22) X d_Ta_push_22 (by rfl) ?_
    refine aw_getNO (pc := 24) X _ 0 (by omega) (by (repeat (first | rw [aw_up_eq] | rw [aw_up_ne _ _ (by first | assumption | omega)])) <;> first | assumption | rfl) (by rfl) in_De (by decide) k_176 (by rfl) d_Ta_push_24 ?_
    refine aw_aload_nR (pc := 27) X d_Ta_push_27 (by rfl) ?_
    refine aw_iload_n (pc := 28) X d_Ta_push_28 (by rfl) ?_
    refine aw_iload_n (pc := 29) X d_Ta_push_29 (by rfl) ?_
    -- invokevirtual 30 lv=4:r,0:r,1:r,2:n,3:n st=n,n,r,r
    refine aw_callV (pc := 30) X _ (s_Tx_set (d := 2) (a := 17 + 5 * g T.length + 1) (m := 12) (q := q) (l := l) (f := f) (by omega) hq (by omega) (by omega) (by omega) hl huv hvl hf c2 h3) q_Tx_set k_682 k_577 k_578 (by omega) c2.obj (by rfl) d_Ta_push_30 (by omega) (Nat.le_of_ble_eq_true rfl) ⟨by omega, by omega⟩ (fun h => by cases h) (fun r w2 nx2 hp => ?_)
    obtain ⟨rfl, rfl, ht, hf2⟩ := hp
    have a22 : w2 15 = aObj 4 [rf G 16, .int (nI T.length)] := (hf2 _ (by omega)).trans a2
    refine aw_aload_nR (pc := 33) X d_Ta_push_33 (by rfl) ?_
    refine aw_dup (pc := 34) X d_Ta_push_34 (by rfl) ?_
    refine aw_getO (pc := 35) X _ 1 (by omega) (by (repeat (first | rw [aw_up_eq] | rw [aw_up_ne _ _ (by first | assumption | omega)])) <;> first | assumption | rfl) (by rfl) in_Ta (by decide) k_254 (by rfl) d_Ta_push_35 ?_
    refine aw_iconstN (pc := 38) X 1 d_Ta_push_38 (by decide) ?_
    refine aw_iaddN (pc := 39) X d_Ta_push_39 ?_
    refine aw_putO (pc := 40) X _ 1 (by omega) (by (repeat (first | rw [aw_up_eq] | rw [aw_up_ne _ _ (by first | assumption | omega)])) <;> first | assumption | rfl) (by rfl) in_Ta (by decide) ty_Ta ok_Ta nm_Ta k_254 (by rfl) (by rfl) (by rfl) (by simp) (fs' := [_, _]) (by rfl) d_Ta_push_40 ?_
    refine aw_aloadR (pc := 43) X d_Ta_push_43 (by rfl) ?_
    refine aw_aret Y X rfl (Or.inr ⟨_, rfl⟩) d_Ta_push_45 (by omega) (by omega) (hP _ _ _ ?_)
    -- ret 45 lv=4:r,0:r,1:r,2:n,3:n st=r
    refine ⟨rfl, Or.inr ⟨h6, rfl, ⟨t, ?_⟩, (hf2.mono (by omega) (by omega)).up _ (by omega)⟩⟩
    have hlen : (T ++ [((sl f u (v - u)).take 12, t.2)]).length = T.length + 1 := by simp
    refine ⟨by omega, by rw [hlen]; exact aw_up_eq _ _ _, by rw [aw_up_ne _ _ (by omega)]; exact (hf2 _ (by omega)).trans a3, a4, a5, fun j hj => ?_⟩
    have ff : fr 15 16 w2 (aw_up w2 15 (aObj 4 [rf G 16, .int (nI (T.length + 1))])) := (fr.refl _ _ _).up _ (by omega)
    by_cases e : j = T.length
    · subst e
      refine ⟨((sl f u (v - u)).take 12, t.2), ?_, c4, fun x hx => ?_⟩
      · refine hDe.keep ⟨(hf2 _ (by omega)).trans c1, ht, c3.keep hf2 (by omega)⟩ ff (by omega)
      · rw [List.getElem?_append_right (Nat.le_refl _)] at hx
        simp at hx
        exact hx.symm
    · obtain ⟨x, x1, x2, x3⟩ := a6 j hj
      have hne : g j ≠ g T.length := fun q => e (a5 j _ hj h6 q)
      refine ⟨x, (x1.keep hf2 (by omega)).keep ff (by omega), x2, fun y hy => x3 y ?_⟩
      by_cases hjl : j < T.length
      · rwa [List.getElem?_append_left hjl] at hy
      · rw [List.getElem?_eq_none_iff.mpr (by rw [hlen]; omega)] at hy
        cases hy
  · refine aw_null (pc := 9) X d_Ta_push_9 ?_
    refine aw_aret Y X rfl (Or.inl rfl) d_Ta_push_10 (by omega) (by omega) (hP _ _ _ ?_)
    -- ret 10 lv=0:r,1:r,2:n,3:n st=0
    exact ⟨rfl, Or.inl ⟨h6, rfl, rfl⟩⟩
/-- the array with place p taken out of the first n and put behind them -/
def rot {α : Type} (f : Nat → α) (p n : Nat) : Nat → α := fun i => if i < p then f i else if i + 1 < n then f (i + 1) else if i + 1 = n then f p else f i
theorem s_Ta_remove {T : List Def} {p : Nat} (hnx : 317 ≤ nx) (hp0 : p < T.length) (h : hTa G w T) : AC G y_Ta_remove b_Ta_remove 4 none d false [rf G 15, .int (nI p)] nx w 0 0 (fun r w' nx' => nx' = nx ∧ r = none ∧ hTa G w' (T.eraseIdx p) ∧ fr 15 17 w w') := by
  obtain ⟨fa, g, h⟩ := h
  have h0 := h
  obtain ⟨a1, a2, a3, a4, a5, a6⟩ := h
  obtain ⟨bp1, bp2⟩ := a4 p (by omega)
  refine AC.ofW (by decide) (Nat.le_of_ble_eq_true rfl) ?_
  intro E P hP Y X
  have X : aw_X G "RescanDesk$Table" b_Ta_remove 4 none "remove" _ _ _ _ _ E := X
  refine AW.eql (lv' := [(0, _), (1, _)]) (by rfl) ?_
  have L : ∀ (k i : Nat) (w1 : Nat → va_E) (f1 : Nat → Option Nat), i + k + 1 = T.length → p ≤ i → w1 15 = aObj 4 [rf G 16, .int (nI T.length)] → w1 16 = aRefs (G.2.2.2.1 5) 60 f1 → fr 15 17 w w1 → (∀ j, f1 j = if p ≤ j ∧ j < i then fa (j + 1) else fa j) → AW G E 4 nx 0 0 w1 9 [(3, .int (nI i)), (2, rf G (17 + 5 * g p)), (0, rf G 15), (1, .int (nI p))] [] := by
    intro k
    induction k with
    | zero =>
      intro i w1 f1 hi hpi e1 e2 hf hj
      obtain ⟨t, c0, -⟩ := a6 p (by omega)
      have c1 : w1 (17 + 5 * g p) = aObj 5 [rf G (17 + 5 * g p + 1), rf G (17 + 5 * g p + 3), kV G t.2.1] := (hf _ (by omega)).trans c0.1
      refine aw_iload_n (pc := 9) X d_Ta_remove_9 (by rfl) ?_
      refine aw_iconstN (pc := 10) X 1 d_Ta_remove_10 (by decide) ?_
      refine aw_iaddN (pc := 11) X d_Ta_remove_11 ?_
      refine aw_aload_nR (pc := 12) X d_Ta_remove_12 (by rfl) ?_
      refine aw_getO (pc := 13) X _ 1 (by omega) (by (repeat (first | rw [aw_up_eq] | rw [aw_up_ne _ _ (by first | assumption | omega)])) <;> first | assumption | rfl) (by rfl) in_Ta (by decide) k_254 (by rfl) d_Ta_remove_13 ?_
      refine aw_icmp_geN (pc := 16) X (tgt := 39) d_Ta_remove_16 (by rfl) (by omega) (by omega) (fun h16 => ?_) (fun h16 => ?_)
      -- br 16 lv=3:n,2:r,0:r,1:n st=
      · refine aw_aload_nR (pc := 39) X d_Ta_remove_39 (by rfl) ?_
        refine aw_dup (pc := 40) X d_Ta_remove_40 (by rfl) ?_
        refine aw_getO (pc := 41) X _ 1 (by omega) (by (repeat (first | rw [aw_up_eq] | rw [aw_up_ne _ _ (by first | assumption | omega)])) <;> first | assumption | rfl) (by rfl) in_Ta (by decide) k_254 (by rfl) d_Ta_remove_41 ?_
        refine aw_iconstN (pc := 44) X 1 d_Ta_remove_44 (by decide) ?_
        refine aw_isubN (pc := 45) X d_Ta_remove_45 (by omega) ?_
        refine aw_putO (pc := 46) X _ 1 (by omega) (by (repeat (first | rw [aw_up_eq] | rw [aw_up_ne _ _ (by first | assumption | omega)])) <;> first | assumption | rfl) (by rfl) in_Ta (by decide) ty_Ta ok_Ta nm_Ta k_254 (by rfl) (by rfl) (by rfl) (by simp) (fs' := [_, _]) (by rfl) d_Ta_remove_46 ?_
        refine aw_aload_nR (pc := 49) X d_Ta_remove_49 (by rfl) ?_
        refine aw_getO (pc := 50) X _ 0 (by omega) (by (repeat (first | rw [aw_up_eq] | rw [aw_up_ne _ _ (by first | assumption | omega)])) <;> first | assumption | rfl) (by rfl) in_Ta (by decide) k_251 (by rfl) d_Ta_remove_50 ?_
        refine aw_aload_nR (pc := 53) X d_Ta_remove_53 (by rfl) ?_
        refine aw_getO (pc := 54) X _ 1 (by omega) (by (repeat (first | rw [aw_up_eq] | rw [aw_up_ne _ _ (by first | assumption | omega)])) <;> first | assumption | rfl) (by rfl) in_Ta (by decide) k_254 (by rfl) d_Ta_remove_54 ?_
        refine aw_aload_nR (pc := 57) X d_Ta_remove_57 (by rfl) ?_
        -- stop 58 lv=3:n,2:r,0:r,1:n st=r,n,r
        refine aw_aastN (pc := 58) X (r := (R_De, T_De, 3)) 16 5 (17 + 5 * g p) 5 (by omega) (by rw [aw_up_ne _ _ (by omega)]; exact e2) (by rfl) (by omega) (by rw [aw_up_ne _ _ (by omega)]; exact c1) (by rfl) (by omega) (by omega) d_Ta_remove_58 ?_
        refine aw_vret Y X rfl d_Ta_remove_59 (by omega) (by omega) (hP _ _ _ ?_)
        -- ret 59 lv=3:n,2:r,0:r,1:n st=
        refine ⟨rfl, rfl, ⟨rot fa p T.length, rot g p T.length, ?_⟩, ((hf.up _ (by omega)).up _ (by omega))⟩
        have hle : (T.eraseIdx p).length = T.length - 1 := by rw [List.length_eraseIdx]; simp [hp0]
        have hrot : va_up f1 (T.length - 1) (some (G.2.2.1 + (17 + 5 * g p))) = rot fa p T.length := by
          funext j
          unfold va_up rot
          by_cases q1 : j = T.length - 1
          · rw [if_pos q1, if_neg (by omega), if_neg (by omega), if_pos (by omega), bp1]
          · rw [if_neg q1, hj j]
            by_cases q2 : j < p
            · rw [if_neg (by omega), if_pos q2]
            · by_cases q3 : j + 1 < T.length
              · rw [if_pos (by omega), if_neg q2, if_pos q3]
              · rw [if_neg (by omega), if_neg q2, if_neg q3, if_neg (by omega)]
        refine ⟨by omega, ?_, ?_, fun j hj2 => ?_, fun x y hx hy hxy => ?_, fun j hj2 => ?_⟩
        · rw [aw_up_ne _ _ (by omega), aw_up_eq, hle]
        · rw [aw_up_eq, hrot]
        · unfold rot
          split
          · exact a4 j hj2
          · split
            · exact a4 (j + 1) (by omega)
            · split
              · exact a4 p (by omega)
              · exact a4 j hj2
        · have key : ∀ z, z < 60 → ∃ z', z' < 60 ∧ rot g p T.length z = g z' ∧ (z < p ∧ z' = z ∨ p ≤ z ∧ z + 1 < T.length ∧ z' = z + 1 ∨ z + 1 = T.length ∧ z' = p ∨ T.length ≤ z ∧ z' = z) := by
            intro z hz
            unfold rot
            split
            · exact ⟨z, hz, rfl, by omega⟩
            · split
              · exact ⟨z + 1, by omega, rfl, by omega⟩
              · split
                · exact ⟨p, by omega, rfl, by omega⟩
                · exact ⟨z, hz, rfl, by omega⟩
          obtain ⟨x', x1, x2, x3⟩ := key x hx
          obtain ⟨y', y1, y2, y3⟩ := key y hy
          have := a5 x' y' x1 y1 (by rw [← x2, ← y2]; exact hxy)
          omega
        · have fw : fr 15 17 w (aw_up (aw_up w1 15 (aObj 4 [rf G 16, .int (nI (T.length - 1))])) 16 (aRefs (G.2.2.2.1 5) 60 (va_up f1 (T.length - 1) (some (G.2.2.1 + (17 + 5 * g p)))))) := ((hf.up _ (by omega)).up _ (by omega))
          unfold rot
          by_cases q2 : j < p
          · rw [if_pos q2]
            obtain ⟨t, t1, t2, t3⟩ := a6 j hj2
            exact ⟨t, t1.keep fw (by omega), t2, fun y hy => t3 y (by rwa [List.getElem?_eraseIdx_of_lt q2] at hy)⟩
          · rw [if_neg q2]
            by_cases q3 : j + 1 < T.length
            · rw [if_pos q3]
              obtain ⟨t, t1, t2, t3⟩ := a6 (j + 1) (by omega)
              exact ⟨t, t1.keep fw (by omega), t2, fun y hy => t3 y (by rwa [List.getElem?_eraseIdx_of_ge (by omega)] at hy)⟩
            · rw [if_neg q3]
              have hnone : (T.eraseIdx p)[j]? = none := List.getElem?_eq_none_iff.mpr (by rw [hle]; omega)
              split
              · obtain ⟨t, t1, t2, t3⟩ := a6 p (by omega)
                exact ⟨t, t1.keep fw (by omega), t2, fun y hy => by rw [hnone] at hy; cases hy⟩
              · obtain ⟨t, t1, t2, t3⟩ := a6 j hj2
                exact ⟨t, t1.keep fw (by omega), t2, fun y hy => by rw [hnone] at hy; cases hy⟩
      · omega
    | succ k ih =>
      intro i w1 f1 hi hpi e1 e2 hf hj
      obtain ⟨b1, b2⟩ := a4 (i + 1) (by omega)
      have f1i : f1 (i + 1) = some (G.2.2.1 + (17 + 5 * g (i + 1))) := by rw [hj, if_neg (by omega), b1]
      obtain ⟨t, c0, -⟩ := a6 (i + 1) (by omega)
      have c1 : w1 (17 + 5 * g (i + 1)) = aObj 5 [rf G (17 + 5 * g (i + 1) + 1), rf G (17 + 5 * g (i + 1) + 3), kV G t.2.1] := (hf _ (by omega)).trans c0.1
      refine aw_iload_n (pc := 9) X d_Ta_remove_9 (by rfl) ?_
      refine aw_iconstN (pc := 10) X 1 d_Ta_remove_10 (by decide) ?_
      refine aw_iaddN (pc := 11) X d_Ta_remove_11 ?_
      refine aw_aload_nR (pc := 12) X d_Ta_remove_12 (by rfl) ?_
      refine aw_getO (pc := 13) X _ 1 (by omega) (by (repeat (first | rw [aw_up_eq] | rw [aw_up_ne _ _ (by first | assumption | omega)])) <;> first | assumption | rfl) (by rfl) in_Ta (by decide) k_254 (by rfl) d_Ta_remove_13 ?_
      refine aw_icmp_geN (pc := 16) X (tgt := 39) d_Ta_remove_16 (by rfl) (by omega) (by omega) (fun h16 => ?_) (fun h16 => ?_)
      -- br 16 lv=3:n,2:r,0:r,1:n st=
      · omega
      · refine aw_aload_nR (pc := 19) X d_Ta_remove_19 (by rfl) ?_
        refine aw_getO (pc := 20) X _ 0 (by omega) (by (repeat (first | rw [aw_up_eq] | rw [aw_up_ne _ _ (by first | assumption | omega)])) <;> first | assumption | rfl) (by rfl) in_Ta (by decide) k_251 (by rfl) d_Ta_remove_20 ?_
        refine aw_iload_n (pc := 23) X d_Ta_remove_23 (by rfl) ?_
        refine aw_aload_nR (pc := 24) X d_Ta_remove_24 (by rfl) ?_
        refine aw_getO (pc := 25) X _ 0 (by omega) (by (repeat (first | rw [aw_up_eq] | rw [aw_up_ne _ _ (by first | assumption | omega)])) <;> first | assumption | rfl) (by rfl) in_Ta (by decide) k_251 (by rfl) d_Ta_remove_25 ?_
        refine aw_iload_n (pc := 28) X d_Ta_remove_28 (by rfl) ?_
        refine aw_iconstN (pc := 29) X 1 d_Ta_remove_29 (by decide) ?_
        refine aw_iaddN (pc := 30) X d_Ta_remove_30 ?_
        refine aw_aaldN (pc := 31) X _ 5 (by omega) (by (repeat (first | rw [aw_up_eq] | rw [aw_up_ne _ _ (by first | assumption | omega)])) <;> first | assumption | rfl) (by rfl) (by omega) (by omega) (by assumption) d_Ta_remove_31 ?_
        -- stop 32 lv=3:n,2:r,0:r,1:n st=r,n,r
        refine aw_aastN (pc := 32) X (r := (R_De, T_De, 3)) 16 5 (17 + 5 * g (i + 1)) 5 (by omega) e2 (by rfl) (by omega) c1 (by rfl) (by omega) (by omega) d_Ta_remove_32 ?_
        refine aw_iincN (pc := 33) X 1 (lv' := [(3, _), (2, _), (0, _), (1, _)]) d_Ta_remove_33 (by rfl) (by decide) (by decide) (by rfl) ?_
        refine aw_goto (pc := 36) X (tgt := 9) d_Ta_remove_36 (by rfl) ?_
        -- stop 9 lv=3:n,2:r,0:r,1:n st=
        refine ih (i + 1) _ _ (by omega) (by omega) (by rw [aw_up_ne _ _ (by omega)]; exact e1) (aw_up_eq _ _ _) (hf.up _ (by omega)) (fun j => ?_)
        unfold va_up
        by_cases q1 : j = i
        · rw [if_pos q1, q1, if_pos (by omega), b1]
        · rw [if_neg q1, hj j]
          by_cases q2 : p ≤ j ∧ j < i
          · rw [if_pos q2, if_pos (by omega)]
          · rw [if_neg q2, if_neg (by omega)]
  refine aw_aload_nR (pc := 0) X d_Ta_remove_0 (by rfl) ?_
  refine aw_getO (pc := 1) X _ 0 (by omega) (by (repeat (first | rw [aw_up_eq] | rw [aw_up_ne _ _ (by first | assumption | omega)])) <;> first | assumption | rfl) (by rfl) in_Ta (by decide) k_251 (by rfl) d_Ta_remove_1 ?_
  refine aw_iload_n (pc := 4) X d_Ta_remove_4 (by rfl) ?_
  refine aw_aaldN (pc := 5) X _ 5 (by omega) (by (repeat (first | rw [aw_up_eq] | rw [aw_up_ne _ _ (by first | assumption | omega)])) <;> first | assumption | rfl) (by rfl) (by omega) (by omega) (by assumption) d_Ta_remove_5 ?_
  refine aw_astore_nR (pc := 6) X (lv' := [(2, _), (0, _), (1, _)]) d_Ta_remove_6 (by decide) (by rfl) ?_
  refine aw_iload_n (pc := 7) X d_Ta_remove_7 (by rfl) ?_
  refine aw_istore_n (pc := 8) X (lv' := [(3, _), (2, _), (0, _), (1, _)]) d_Ta_remove_8 (by decide) (by rfl) ?_
  -- stop 9 lv=3:n,2:r,0:r,1:n st=
  exact L (T.length - p - 1) p w fa (by omega) (Nat.le_refl _) a2 a3 (fr.refl _ _ _) (fun j => by rw [if_neg (by omega)])
end
end
section
/-! Table.pop, popAll; RescanDesk$Call: at a, its definition at a + 1, its starts at a + 6; the gathered characters' array is at 319 -/
def y_Ca_init : MethodName := ⟨"RescanDesk$Call", "<init>", "([C)V"⟩
abbrev b_Ca_init : ByteArray := prog_4_method_1_code
theorem d_Ca_init_0 : decode b_Ca_init 0 = .ok (.aload_n 0, 1) := by decide +kernel
theorem d_Ca_init_1 : decode b_Ca_init 1 = .ok (.invokespecial 3, 3) := by decide +kernel
theorem d_Ca_init_4 : decode b_Ca_init 4 = .ok (.aload_n 0, 1) := by decide +kernel
theorem d_Ca_init_5 : decode b_Ca_init 5 = .ok (.new 9, 3) := by decide +kernel
theorem d_Ca_init_8 : decode b_Ca_init 8 = .ok (.dup, 1) := by decide +kernel
theorem d_Ca_init_9 : decode b_Ca_init 9 = .ok (.invokespecial 11, 3) := by decide +kernel
theorem d_Ca_init_12 : decode b_Ca_init 12 = .ok (.putfield 12, 3) := by decide +kernel
theorem d_Ca_init_15 : decode b_Ca_init 15 = .ok (.aload_n 0, 1) := by decide +kernel
theorem d_Ca_init_16 : decode b_Ca_init 16 = .ok (.aload_n 1, 1) := by decide +kernel
theorem d_Ca_init_17 : decode b_Ca_init 17 = .ok (.putfield 18, 3) := by decide +kernel
theorem d_Ca_init_20 : decode b_Ca_init 20 = .ok (.aload_n 0, 1) := by decide +kernel
theorem d_Ca_init_21 : decode b_Ca_init 21 = .ok (.bipush 10, 2) := by decide +kernel
theorem d_Ca_init_23 : decode b_Ca_init 23 = .ok (.newarray .int, 2) := by decide +kernel
theorem d_Ca_init_25 : decode b_Ca_init 25 = .ok (.putfield 22, 3) := by decide +kernel
theorem d_Ca_init_28 : decode b_Ca_init 28 = .ok (.aload_n 0, 1) := by decide +kernel
theorem d_Ca_init_29 : decode b_Ca_init 29 = .ok (.iconst 0, 1) := by decide +kernel
theorem d_Ca_init_30 : decode b_Ca_init 30 = .ok (.putfield 26, 3) := by decide +kernel
theorem d_Ca_init_33 : decode b_Ca_init 33 = .ok (.aload_n 0, 1) := by decide +kernel
theorem d_Ca_init_34 : decode b_Ca_init 34 = .ok (.iconst 0, 1) := by decide +kernel
theorem d_Ca_init_35 : decode b_Ca_init 35 = .ok (.putfield 30, 3) := by decide +kernel
theorem d_Ca_init_38 : decode b_Ca_init 38 = .ok (.aload_n 0, 1) := by decide +kernel
theorem d_Ca_init_39 : decode b_Ca_init 39 = .ok (.iconst 0, 1) := by decide +kernel
theorem d_Ca_init_40 : decode b_Ca_init 40 = .ok (.putfield 33, 3) := by decide +kernel
theorem d_Ca_init_43 : decode b_Ca_init 43 = .ok (.return_, 1) := by decide +kernel
theorem q_Ca_init : aw_q1 y_Ca_init b_Ca_init 2 none 1 := ⟨k_274, k_76, ⟨by decide, by decide, by decide +kernel⟩, by decide⟩
def y_Ca_from : MethodName := ⟨"RescanDesk$Call", "from", "(I)I"⟩
abbrev b_Ca_from : ByteArray := prog_4_method_2_code
theorem d_Ca_from_0 : decode b_Ca_from 0 = .ok (.iload_n 1, 1) := by decide +kernel
theorem d_Ca_from_1 : decode b_Ca_from 1 = .ok (.iconst 1, 1) := by decide +kernel
theorem d_Ca_from_2 : decode b_Ca_from 2 = .ok (.if_icmp .lt 22, 3) := by decide +kernel
theorem d_Ca_from_5 : decode b_Ca_from 5 = .ok (.iload_n 1, 1) := by decide +kernel
theorem d_Ca_from_6 : decode b_Ca_from 6 = .ok (.aload_n 0, 1) := by decide +kernel
theorem d_Ca_from_7 : decode b_Ca_from 7 = .ok (.getfield 26, 3) := by decide +kernel
theorem d_Ca_from_10 : decode b_Ca_from 10 = .ok (.if_icmp .gt 14, 3) := by decide +kernel
theorem d_Ca_from_13 : decode b_Ca_from 13 = .ok (.aload_n 0, 1) := by decide +kernel
theorem d_Ca_from_14 : decode b_Ca_from 14 = .ok (.getfield 22, 3) := by decide +kernel
theorem d_Ca_from_17 : decode b_Ca_from 17 = .ok (.iload_n 1, 1) := by decide +kernel
theorem d_Ca_from_18 : decode b_Ca_from 18 = .ok (.iconst 1, 1) := by decide +kernel
theorem d_Ca_from_19 : decode b_Ca_from 19 = .ok (.isub, 1) := by decide +kernel
theorem d_Ca_from_20 : decode b_Ca_from 20 = .ok (.iaload, 1) := by decide +kernel
theorem d_Ca_from_21 : decode b_Ca_from 21 = .ok (.goto 4, 3) := by decide +kernel
theorem d_Ca_from_24 : decode b_Ca_from 24 = .ok (.iconst 0, 1) := by decide +kernel
theorem d_Ca_from_25 : decode b_Ca_from 25 = .ok (.ireturn, 1) := by decide +kernel
theorem q_Ca_from : aw_q1 y_Ca_from b_Ca_from 2 (some .int) 1 := ⟨k_630, k_76, ⟨by decide, by decide, by decide +kernel⟩, by decide⟩
def y_Ca_to : MethodName := ⟨"RescanDesk$Call", "to", "(I)I"⟩
abbrev b_Ca_to : ByteArray := prog_4_method_3_code
theorem d_Ca_to_0 : decode b_Ca_to 0 = .ok (.iload_n 1, 1) := by decide +kernel
theorem d_Ca_to_1 : decode b_Ca_to 1 = .ok (.iconst 1, 1) := by decide +kernel
theorem d_Ca_to_2 : decode b_Ca_to 2 = .ok (.if_icmp .lt 20, 3) := by decide +kernel
theorem d_Ca_to_5 : decode b_Ca_to 5 = .ok (.iload_n 1, 1) := by decide +kernel
theorem d_Ca_to_6 : decode b_Ca_to 6 = .ok (.aload_n 0, 1) := by decide +kernel
theorem d_Ca_to_7 : decode b_Ca_to 7 = .ok (.getfield 26, 3) := by decide +kernel
theorem d_Ca_to_10 : decode b_Ca_to 10 = .ok (.if_icmp .gt 12, 3) := by decide +kernel
theorem d_Ca_to_13 : decode b_Ca_to 13 = .ok (.aload_n 0, 1) := by decide +kernel
theorem d_Ca_to_14 : decode b_Ca_to 14 = .ok (.getfield 22, 3) := by decide +kernel
theorem d_Ca_to_17 : decode b_Ca_to 17 = .ok (.iload_n 1, 1) := by decide +kernel
theorem d_Ca_to_18 : decode b_Ca_to 18 = .ok (.iaload, 1) := by decide +kernel
theorem d_Ca_to_19 : decode b_Ca_to 19 = .ok (.goto 4, 3) := by decide +kernel
theorem d_Ca_to_22 : decode b_Ca_to 22 = .ok (.iconst 0, 1) := by decide +kernel
theorem d_Ca_to_23 : decode b_Ca_to 23 = .ok (.ireturn, 1) := by decide +kernel
theorem q_Ca_to : aw_q1 y_Ca_to b_Ca_to 2 (some .int) 1 := ⟨k_634, k_76, ⟨by decide, by decide, by decide +kernel⟩, by decide⟩
def y_Ca_length : MethodName := ⟨"RescanDesk$Call", "length", "(I)I"⟩
abbrev b_Ca_length : ByteArray := prog_4_method_4_code
theorem d_Ca_length_0 : decode b_Ca_length 0 = .ok (.aload_n 0, 1) := by decide +kernel
theorem d_Ca_length_1 : decode b_Ca_length 1 = .ok (.iload_n 1, 1) := by decide +kernel
theorem d_Ca_length_2 : decode b_Ca_length 2 = .ok (.invokevirtual 37, 3) := by decide +kernel
theorem d_Ca_length_5 : decode b_Ca_length 5 = .ok (.aload_n 0, 1) := by decide +kernel
theorem d_Ca_length_6 : decode b_Ca_length 6 = .ok (.iload_n 1, 1) := by decide +kernel
theorem d_Ca_length_7 : decode b_Ca_length 7 = .ok (.invokevirtual 41, 3) := by decide +kernel
theorem d_Ca_length_10 : decode b_Ca_length 10 = .ok (.isub, 1) := by decide +kernel
theorem d_Ca_length_11 : decode b_Ca_length 11 = .ok (.ireturn, 1) := by decide +kernel
theorem q_Ca_length : aw_q1 y_Ca_length b_Ca_length 2 (some .int) 1 := ⟨k_670, k_76, ⟨by decide, by decide, by decide +kernel⟩, by decide⟩
def y_Ca_value : MethodName := ⟨"RescanDesk$Call", "value", "(I)J"⟩
abbrev b_Ca_value : ByteArray := prog_4_method_5_code
theorem d_Ca_value_0 : decode b_Ca_value 0 = .ok (.aload_n 0, 1) := by decide +kernel
theorem d_Ca_value_1 : decode b_Ca_value 1 = .ok (.getfield 18, 3) := by decide +kernel
theorem d_Ca_value_4 : decode b_Ca_value 4 = .ok (.aload_n 0, 1) := by decide +kernel
theorem d_Ca_value_5 : decode b_Ca_value 5 = .ok (.iload_n 1, 1) := by decide +kernel
theorem d_Ca_value_6 : decode b_Ca_value 6 = .ok (.invokevirtual 41, 3) := by decide +kernel
theorem d_Ca_value_9 : decode b_Ca_value 9 = .ok (.aload_n 0, 1) := by decide +kernel
theorem d_Ca_value_10 : decode b_Ca_value 10 = .ok (.iload_n 1, 1) := by decide +kernel
theorem d_Ca_value_11 : decode b_Ca_value 11 = .ok (.invokevirtual 37, 3) := by decide +kernel
theorem d_Ca_value_14 : decode b_Ca_value 14 = .ok (.invokestatic 44, 3) := by decide +kernel
theorem d_Ca_value_17 : decode b_Ca_value 17 = .ok (.lreturn, 1) := by decide +kernel
theorem q_Ca_value : aw_q1 y_Ca_value b_Ca_value 2 (some .long) 1 := ⟨k_702, k_76, ⟨by decide, by decide, by decide +kernel⟩, by decide⟩
def y_Ca_isSame : MethodName := ⟨"RescanDesk$Call", "isSame", "(II)Z"⟩
abbrev b_Ca_isSame : ByteArray := prog_4_method_6_code
theorem d_Ca_isSame_0 : decode b_Ca_isSame 0 = .ok (.aload_n 0, 1) := by decide +kernel
theorem d_Ca_isSame_1 : decode b_Ca_isSame 1 = .ok (.iload_n 1, 1) := by decide +kernel
theorem d_Ca_isSame_2 : decode b_Ca_isSame 2 = .ok (.invokevirtual 48, 3) := by decide +kernel
theorem d_Ca_isSame_5 : decode b_Ca_isSame 5 = .ok (.aload_n 0, 1) := by decide +kernel
theorem d_Ca_isSame_6 : decode b_Ca_isSame 6 = .ok (.iload_n 2, 1) := by decide +kernel
theorem d_Ca_isSame_7 : decode b_Ca_isSame 7 = .ok (.invokevirtual 48, 3) := by decide +kernel
theorem d_Ca_isSame_10 : decode b_Ca_isSame 10 = .ok (.if_icmp .ne 17, 3) := by decide +kernel
theorem d_Ca_isSame_13 : decode b_Ca_isSame 13 = .ok (.aload_n 0, 1) := by decide +kernel
theorem d_Ca_isSame_14 : decode b_Ca_isSame 14 = .ok (.iload_n 2, 1) := by decide +kernel
theorem d_Ca_isSame_15 : decode b_Ca_isSame 15 = .ok (.iload_n 1, 1) := by decide +kernel
theorem d_Ca_isSame_16 : decode b_Ca_isSame 16 = .ok (.iconst 0, 1) := by decide +kernel
theorem d_Ca_isSame_17 : decode b_Ca_isSame 17 = .ok (.invokevirtual 51, 3) := by decide +kernel
theorem d_Ca_isSame_20 : decode b_Ca_isSame 20 = .ok (.ifCond .eq 7, 3) := by decide +kernel
theorem d_Ca_isSame_23 : decode b_Ca_isSame 23 = .ok (.iconst 1, 1) := by decide +kernel
theorem d_Ca_isSame_24 : decode b_Ca_isSame 24 = .ok (.goto 4, 3) := by decide +kernel
theorem d_Ca_isSame_27 : decode b_Ca_isSame 27 = .ok (.iconst 0, 1) := by decide +kernel
theorem d_Ca_isSame_28 : decode b_Ca_isSame 28 = .ok (.ireturn, 1) := by decide +kernel
theorem q_Ca_isSame : aw_q1 y_Ca_isSame b_Ca_isSame 3 (some .boolean) 2 := ⟨k_782, k_76, ⟨by decide, by decide, by decide +kernel⟩, by decide⟩
def y_Ca_stands : MethodName := ⟨"RescanDesk$Call", "stands", "(III)Z"⟩
abbrev b_Ca_stands : ByteArray := prog_4_method_7_code
theorem d_Ca_stands_0 : decode b_Ca_stands 0 = .ok (.aload_n 0, 1) := by decide +kernel
theorem d_Ca_stands_1 : decode b_Ca_stands 1 = .ok (.iload_n 1, 1) := by decide +kernel
theorem d_Ca_stands_2 : decode b_Ca_stands 2 = .ok (.invokevirtual 48, 3) := by decide +kernel
theorem d_Ca_stands_5 : decode b_Ca_stands 5 = .ok (.istore 4, 2) := by decide +kernel
theorem d_Ca_stands_7 : decode b_Ca_stands 7 = .ok (.iload_n 3, 1) := by decide +kernel
theorem d_Ca_stands_8 : decode b_Ca_stands 8 = .ok (.ifCond .lt 15, 3) := by decide +kernel
theorem d_Ca_stands_11 : decode b_Ca_stands 11 = .ok (.iload 4, 2) := by decide +kernel
theorem d_Ca_stands_13 : decode b_Ca_stands 13 = .ok (.aload_n 0, 1) := by decide +kernel
theorem d_Ca_stands_14 : decode b_Ca_stands 14 = .ok (.iload_n 2, 1) := by decide +kernel
theorem d_Ca_stands_15 : decode b_Ca_stands 15 = .ok (.invokevirtual 48, 3) := by decide +kernel
theorem d_Ca_stands_18 : decode b_Ca_stands 18 = .ok (.iload_n 3, 1) := by decide +kernel
theorem d_Ca_stands_19 : decode b_Ca_stands 19 = .ok (.isub, 1) := by decide +kernel
theorem d_Ca_stands_20 : decode b_Ca_stands 20 = .ok (.if_icmp .le 5, 3) := by decide +kernel
theorem d_Ca_stands_23 : decode b_Ca_stands 23 = .ok (.iconst 0, 1) := by decide +kernel
theorem d_Ca_stands_24 : decode b_Ca_stands 24 = .ok (.ireturn, 1) := by decide +kernel
theorem d_Ca_stands_25 : decode b_Ca_stands 25 = .ok (.iconst 0, 1) := by decide +kernel
theorem d_Ca_stands_26 : decode b_Ca_stands 26 = .ok (.istore 5, 2) := by decide +kernel
theorem d_Ca_stands_28 : decode b_Ca_stands 28 = .ok (.iload 5, 2) := by decide +kernel
theorem d_Ca_stands_30 : decode b_Ca_stands 30 = .ok (.iload 4, 2) := by decide +kernel
theorem d_Ca_stands_32 : decode b_Ca_stands 32 = .ok (.if_icmp .ge 42, 3) := by decide +kernel
theorem d_Ca_stands_35 : decode b_Ca_stands 35 = .ok (.aload_n 0, 1) := by decide +kernel
theorem d_Ca_stands_36 : decode b_Ca_stands 36 = .ok (.getfield 18, 3) := by decide +kernel
theorem d_Ca_stands_39 : decode b_Ca_stands 39 = .ok (.aload_n 0, 1) := by decide +kernel
theorem d_Ca_stands_40 : decode b_Ca_stands 40 = .ok (.iload_n 1, 1) := by decide +kernel
theorem d_Ca_stands_41 : decode b_Ca_stands 41 = .ok (.invokevirtual 41, 3) := by decide +kernel
theorem d_Ca_stands_44 : decode b_Ca_stands 44 = .ok (.iload 5, 2) := by decide +kernel
theorem d_Ca_stands_46 : decode b_Ca_stands 46 = .ok (.iadd, 1) := by decide +kernel
theorem d_Ca_stands_47 : decode b_Ca_stands 47 = .ok (.caload, 1) := by decide +kernel
theorem d_Ca_stands_48 : decode b_Ca_stands 48 = .ok (.aload_n 0, 1) := by decide +kernel
theorem d_Ca_stands_49 : decode b_Ca_stands 49 = .ok (.getfield 18, 3) := by decide +kernel
theorem d_Ca_stands_52 : decode b_Ca_stands 52 = .ok (.aload_n 0, 1) := by decide +kernel
theorem d_Ca_stands_53 : decode b_Ca_stands 53 = .ok (.iload_n 2, 1) := by decide +kernel
theorem d_Ca_stands_54 : decode b_Ca_stands 54 = .ok (.invokevirtual 41, 3) := by decide +kernel
theorem d_Ca_stands_57 : decode b_Ca_stands 57 = .ok (.iload_n 3, 1) := by decide +kernel
theorem d_Ca_stands_58 : decode b_Ca_stands 58 = .ok (.iadd, 1) := by decide +kernel
theorem d_Ca_stands_59 : decode b_Ca_stands 59 = .ok (.iload 5, 2) := by decide +kernel
theorem d_Ca_stands_61 : decode b_Ca_stands 61 = .ok (.iadd, 1) := by decide +kernel
theorem d_Ca_stands_62 : decode b_Ca_stands 62 = .ok (.caload, 1) := by decide +kernel
theorem d_Ca_stands_63 : decode b_Ca_stands 63 = .ok (.if_icmp .eq 5, 3) := by decide +kernel
theorem d_Ca_stands_66 : decode b_Ca_stands 66 = .ok (.iconst 0, 1) := by decide +kernel
theorem d_Ca_stands_67 : decode b_Ca_stands 67 = .ok (.ireturn, 1) := by decide +kernel
theorem d_Ca_stands_68 : decode b_Ca_stands 68 = .ok (.iinc 5 1, 3) := by decide +kernel
theorem d_Ca_stands_71 : decode b_Ca_stands 71 = .ok (.goto (-43), 3) := by decide +kernel
theorem d_Ca_stands_74 : decode b_Ca_stands 74 = .ok (.iconst 1, 1) := by decide +kernel
theorem d_Ca_stands_75 : decode b_Ca_stands 75 = .ok (.ireturn, 1) := by decide +kernel
theorem q_Ca_stands : aw_q1 y_Ca_stands b_Ca_stands 6 (some .boolean) 3 := ⟨k_787, k_76, ⟨by decide, by decide, by decide +kernel⟩, by decide⟩
def popS (T : List Def) (s : List Nat) : List Def := match tfind T s with
  | none => T
  | some i => T.eraseIdx i
def isn (s : List Nat) (t : Def) : Bool := decide (t.1 ≠ s)
def frm (st : Nat → Nat) (n i : Nat) : Nat := if 1 ≤ i ∧ i ≤ n then st (i - 1) else 0
def too (st : Nat → Nat) (n i : Nat) : Nat := if 1 ≤ i ∧ i ≤ n then st i else 0
/-- the argument of number i -/
def argL (gg st : Nat → Nat) (n i : Nat) : List Nat := sl gg (frm st n i) (too st n i - frm st n i)
def oCa (G : aw_G) (a n dp : Nat) (bg : Bool) : va_E := aObj 7 [rf G (a + 1), rf G 319, rf G (a + 6), .int (nI n), .int (nI dp), .int (nI (bN bg))]
def hCa (G : aw_G) (w : Nat → va_E) (a : Nat) (t : Def) (st : Nat → Nat) (n dp : Nat) (bg : Bool) : Prop := w a = oCa G a n dp bg ∧ hDe G w (a + 1) t ∧ w (a + 6) = aArr (G.2.2.2.1 1) 10 st
/-- the starts of n arguments: they rise, up to 400 -/
def okSt (st : Nat → Nat) (n : Nat) : Prop := n ≤ 9 ∧ (∀ i j, i ≤ j → j ≤ n → st i ≤ st j) ∧ st n ≤ 400
theorem okSt.ft {st : Nat → Nat} {n : Nat} (h : okSt st n) (i : Nat) : frm st n i ≤ too st n i ∧ too st n i ≤ 400 := by
  unfold frm too
  split
  · have h1 := h.2.1 (i - 1) i (by omega) (by omega)
    have h2 := h.2.1 i n (by omega) (by omega)
    have := h.2.2
    omega
  · omega
section
variable {G : aw_G} {nx d : Nat} {w : Nat → va_E}
theorem s_Ta_pop {T : List Def} {q l u v : Nat} {f : Nat → Nat} (hnx : 317 ≤ nx) (hq : q < nx) (hd : 2 ≤ d) (hl : l < 2 ^ 20) (huv : u ≤ v) (hvl : v ≤ l) (hf : ∀ j, f j < 65536) (h : hTa G w T) (h3 : w q = aCh G l f) : AC G y_Ta_pop b_Ta_pop 5 none d false [rf G 15, rf G q, .int (nI u), .int (nI v)] nx w 0 0 (fun r w' nx' => nx' = nx ∧ r = none ∧ hTa G w' (popS T (sl f u (v - u))) ∧ fr 15 17 w w') := by
  have h0 := h
  obtain ⟨fa, g, h⟩ := h
  obtain ⟨a1, a2, -⟩ := h
  refine AC.ofW (by decide) (Nat.le_of_ble_eq_true rfl) ?_
  intro E P hP Y X
  have X : aw_X G "RescanDesk$Table" b_Ta_pop 5 none "pop" _ _ _ _ _ E := X
  refine AW.eql (lv' := [(0, _), (1, _), (2, _), (3, _)]) (by rfl) ?_
  refine aw_aload_nR (pc := 0) X d_Ta_pop_0 (by rfl) ?_
  refine aw_aload_nR (pc := 1) X d_Ta_pop_1 (by rfl) ?_
  refine aw_iload_n (pc := 2) X d_Ta_pop_2 (by rfl) ?_
  refine aw_iload_n (pc := 3) X d_Ta_pop_3 (by rfl) ?_
  -- invokevirtual 4 lv=0:r,1:r,2:n,3:n st=n,n,r,r
  refine aw_callV (pc := 4) X _ (s_Ta_topmost (d := 1) hnx hq (by omega) hl huv hvl hf h0 h3) q_Ta_topmost k_415 k_416 k_417 (by omega) a2 (by rfl) d_Ta_pop_4 (by omega) (Nat.le_of_ble_eq_true rfl) ⟨by omega, by omega⟩ (fun h => by cases h) (fun r w2 nx2 hp => ?_)
  obtain ⟨rfl, rfl, rfl⟩ := hp
  cases ho : tfind T (sl f u (v - u)) with
  | none =>
    have e : popS T (sl f u (v - u)) = T := by rw [popS, ho]
    refine aw_istore (pc := 7) X (lv' := [(4, _), (0, _), (1, _), (2, _), (3, _)]) d_Ta_pop_7 (by decide) (by rfl) ?_
    refine aw_iload (pc := 9) X d_Ta_pop_9 (by rfl) ?_
    refine aw_iconst (pc := 11) X (v := -1) d_Ta_pop_11 (by decide) ?_
    refine aw_icmp_eq (pc := 12) X (tgt := 21) d_Ta_pop_12 (by rfl) (fun h12 => ?_) (fun h12 => ?_)
    -- br 12 lv=4:i,0:r,1:r,2:n,3:n st=
    · refine aw_vret Y X rfl d_Ta_pop_21 (by omega) (by omega) (hP _ _ _ ?_)
      -- ret 21 lv=4:i,0:r,1:r,2:n,3:n st=
      rw [e]
      exact ⟨rfl, rfl, h0, fr.refl _ _ _⟩
    · exact absurd rfl h12
  | some k =>
    have e : popS T (sl f u (v - u)) = T.eraseIdx k := by rw [popS, ho]
    have hk := tfd_lt ho
    refine aw_istore (pc := 7) X (lv' := [(4, _), (0, _), (1, _), (2, _), (3, _)]) d_Ta_pop_7 (by decide) (by rfl) ?_
    refine aw_iload (pc := 9) X d_Ta_pop_9 (by rfl) ?_
    refine aw_iconst (pc := 11) X (v := -1) d_Ta_pop_11 (by decide) ?_
    refine aw_icmp_eq (pc := 12) X (tgt := 21) d_Ta_pop_12 (by rfl) (fun h12 => ?_) (fun h12 => ?_)
    -- br 12 lv=4:i,0:r,1:r,2:n,3:n st=
    · exact absurd ((pV_inj (o := none) (i := k) (fun _ q => by cases q) (by omega)).mp h12.symm) (by simp)
    · refine aw_aload_nR (pc := 15) X d_Ta_pop_15 (by rfl) ?_
      refine aw_iload (pc := 16) X d_Ta_pop_16 (by rfl) ?_
      -- invokevirtual 18 lv=4:i,0:r,1:r,2:n,3:n st=i,r
      refine aw_callV (pc := 18) X _ (s_Ta_remove (d := 1) hnx hk h0) q_Ta_remove k_691 k_693 k_14 (by omega) a2 (by rfl) d_Ta_pop_18 (by omega) (Nat.le_of_ble_eq_true rfl) ⟨by omega, by omega⟩ (fun h => by cases h) (fun r w3 nx3 hp => ?_)
      obtain ⟨rfl, rfl, h4, hf4⟩ := hp
      refine aw_vret Y X rfl d_Ta_pop_21 (by omega) (by omega) (hP _ _ _ ?_)
      -- ret 21 lv=4:i,0:r,1:r,2:n,3:n st=
      rw [e]
      exact ⟨rfl, rfl, h4, hf4⟩
theorem s_Ta_popAll {T : List Def} {q l u v : Nat} {f : Nat → Nat} (hnx : 317 ≤ nx) (hq : q < nx) (hq2 : 317 ≤ q) (hd : 2 ≤ d) (hl : l < 2 ^ 20) (huv : u ≤ v) (hvl : v ≤ l) (hf : ∀ j, f j < 65536) (h : hTa G w T) (h3 : w q = aCh G l f) : AC G y_Ta_popAll b_Ta_popAll 5 none d false [rf G 15, rf G q, .int (nI u), .int (nI v)] nx w 0 0 (fun r w' nx' => nx' = nx ∧ r = none ∧ hTa G w' (T.filter (isn (sl f u (v - u)))) ∧ fr 15 17 w w') := by
  have h0 := h
  obtain ⟨fa, g, h⟩ := h
  obtain ⟨a1, a2, -⟩ := h
  refine AC.ofW (by decide) (Nat.le_of_ble_eq_true rfl) ?_
  intro E P hP Y X
  have X : aw_X G "RescanDesk$Table" b_Ta_popAll 5 none "popAll" _ _ _ _ _ E := X
  refine AW.eql (lv' := [(0, _), (1, _), (2, _), (3, _)]) (by rfl) ?_
  have L : ∀ i w1, i ≤ T.length → hTa G w1 (T.take i ++ (T.drop i).filter (isn (sl f u (v - u)))) → fr 15 17 w w1 → AW G E 5 nx 0 0 w1 8 [(4, .int (dV i)), (0, rf G 15), (1, rf G q), (2, .int (nI u)), (3, .int (nI v))] [] := by
    intro i
    induction i with
    | zero =>
      intro w1 hi h1 hfr
      refine aw_iload (pc := 8) X d_Ta_popAll_8 (by rfl) ?_
      refine aw_if_lt (pc := 10) X (tgt := 44) d_Ta_popAll_10 (by rfl) (fun h10 => ?_) (fun h10 => ?_)
      -- br 10 lv=4:i,0:r,1:r,2:n,3:n st=
      · refine aw_vret Y X rfl d_Ta_popAll_44 (by omega) (by omega) (hP _ _ _ ?_)
        -- ret 44 lv=4:i,0:r,1:r,2:n,3:n st=
        exact ⟨rfl, rfl, by simpa using h1, hfr⟩
      · exact absurd (show (-1 : Int32) < 0 by decide) h10
    | succ i ih =>
      intro w1 hi h1 hfr
      have h10 := h1
      obtain ⟨f1, g1, h1⟩ := h1
      obtain ⟨b1, b2, b3, b4, b5, b6⟩ := id h1
      have hlen : i < (T.take (i + 1) ++ (T.drop (i + 1)).filter (isn (sl f u (v - u)))).length := by simp; omega
      obtain ⟨x1, x2⟩ := b4 i (by omega)
      have htk : T.take (i + 1) = T.take i ++ [T[i]] := (List.take_append_getElem (by omega)).symm
      have hdr : T.drop i = T[i] :: T.drop (i + 1) := List.drop_eq_getElem_cons (by omega)
      have hti : (T.take (i + 1) ++ (T.drop (i + 1)).filter (isn (sl f u (v - u))))[i]? = some T[i] := by
        rw [List.getElem?_append_left (by simp; omega), List.getElem?_take_of_lt (by omega), List.getElem?_eq_getElem (by omega)]
      obtain ⟨c1, c2, c3⟩ := h1.at hti
      have c1' : w1 (17 + 5 * g1 i) = aObj 5 [rf G (17 + 5 * g1 i + 1), rf G (17 + 5 * g1 i + 3), kV G T[i].2.1] := c1
      have h31 : w1 q = aCh G l f := (hfr _ (by omega)).trans h3
      refine AW.eql (lv' := [(4, .int (nI i)), (0, rf G 15), (1, rf G q), (2, .int (nI u)), (3, .int (nI v))]) rfl ?_
      have fin : ∀ w2, hTa G w2 (T.take i ++ (T.drop i).filter (isn (sl f u (v - u)))) → fr 15 17 w w2 → AW G E 5 nx 0 0 w2 38 [(4, .int (nI i)), (0, rf G 15), (1, rf G q), (2, .int (nI u)), (3, .int (nI v))] [] := fun w2 q1 q2 => by
        refine aw_iinc (pc := 38) X (v := dV i) (lv' := [(4, _), (0, _), (1, _), (2, _), (3, _)]) d_Ta_popAll_38 (by rfl) (dV_dec i) (by decide) (by rfl) ?_
        refine aw_goto (pc := 41) X (tgt := 8) d_Ta_popAll_41 (by rfl) ?_
        -- stop 8 lv=4:i,0:r,1:r,2:n,3:n st=
        exact ih w2 (by omega) q1 q2
      refine aw_iload (pc := 8) X d_Ta_popAll_8 (by rfl) ?_
      refine aw_if_ltN (pc := 10) X (tgt := 44) d_Ta_popAll_10 (by rfl) (by omega) ?_
      refine aw_aload_nR (pc := 13) X d_Ta_popAll_13 (by rfl) ?_
      refine aw_getO (pc := 14) X _ 0 (by omega) (by (repeat (first | rw [aw_up_eq] | rw [aw_up_ne _ _ (by first | assumption | omega)])) <;> first | assumption | rfl) (by rfl) in_Ta (by decide) k_251 (by rfl) d_Ta_popAll_14 ?_
      refine aw_iload (pc := 17) X d_Ta_popAll_17 (by rfl) ?_
      refine aw_aaldN (pc := 19) X _ 5 (by omega) (by (repeat (first | rw [aw_up_eq] | rw [aw_up_ne _ _ (by first | assumption | omega)])) <;> first | assumption | rfl) (by rfl) (by omega) (by omega) (by assumption) d_Ta_popAll_19 ?_
      refine aw_getNO (pc := 20) X _ 0 (by omega) (by (repeat (first | rw [aw_up_eq] | rw [aw_up_ne _ _ (by first | assumption | omega)])) <;> first | assumption | rfl) (by rfl) in_De (by decide) k_176 (by rfl) d_Ta_popAll_20 ?_
      refine aw_aload_nR (pc := 23) X d_Ta_popAll_23 (by rfl) ?_
      refine aw_iload_n (pc := 24) X d_Ta_popAll_24 (by rfl) ?_
      refine aw_iload_n (pc := 25) X d_Ta_popAll_25 (by rfl) ?_
      -- invokevirtual 26 lv=4:n,0:r,1:r,2:n,3:n st=n,n,r,r
      refine aw_callV (pc := 26) X _ (s_Tx_isSame (d := 0) (a := 17 + 5 * g1 i + 1) (m := 12) (by omega) hq (by omega) hl huv hvl hf c2 h31) q_Tx_isSame k_419 k_420 k_421 (by omega) c2.obj (by rfl) d_Ta_popAll_26 (by omega) (Nat.le_of_ble_eq_true rfl) ⟨by omega, by omega⟩ (fun h => by cases h) (fun r w2 nx2 hp => ?_)
      obtain ⟨rfl, rfl, rfl⟩ := hp
      have hb := bN_lt (decide (T[i].1 = sl f u (v - u)))
      refine aw_if_eqN (pc := 29) X (tgt := 38) d_Ta_popAll_29 (by rfl) (by omega) (fun h29 => ?_) (fun h29 => ?_)
      -- br 29 lv=4:n,0:r,1:r,2:n,3:n st=
      · have hne := of_decide_eq_false (bN_eq.mp h29)
        refine fin _ ?_ hfr
        rw [hdr, List.filter_cons_of_pos (by simpa [isn] using hne)]
        rw [htk, List.append_assoc] at h10
        exact h10
      · have he := of_decide_eq_true (bN_ne.mp h29)
        refine aw_aload_nR (pc := 32) X d_Ta_popAll_32 (by rfl) ?_
        refine aw_iload (pc := 33) X d_Ta_popAll_33 (by rfl) ?_
        -- invokevirtual 35 lv=4:n,0:r,1:r,2:n,3:n st=n,r
        refine aw_callV (pc := 35) X _ (s_Ta_remove (d := 1) (p := i) hnx hlen h10) q_Ta_remove k_691 k_693 k_14 (by omega) b2 (by rfl) d_Ta_popAll_35 (by omega) (Nat.le_of_ble_eq_true rfl) ⟨by omega, by omega⟩ (fun h => by cases h) (fun r w3 nx3 hp => ?_)
        obtain ⟨rfl, rfl, h4, hf4⟩ := hp
        refine fin _ ?_ (hfr.trans hf4)
        rw [hdr, List.filter_cons_of_neg (by simp [isn, he])]
        have : (T.take (i + 1) ++ (T.drop (i + 1)).filter (isn (sl f u (v - u)))).eraseIdx i = T.take i ++ (T.drop (i + 1)).filter (isn (sl f u (v - u))) := by
          rw [htk, List.append_assoc, List.eraseIdx_append_of_length_le (by simp; omega)]
          have : i - (T.take i).length = 0 := by simp; omega
          rw [this]
          rfl
        rwa [this] at h4
  refine aw_aload_nR (pc := 0) X d_Ta_popAll_0 (by rfl) ?_
  refine aw_getO (pc := 1) X _ 1 (by omega) (by (repeat (first | rw [aw_up_eq] | rw [aw_up_ne _ _ (by first | assumption | omega)])) <;> first | assumption | rfl) (by rfl) in_Ta (by decide) k_254 (by rfl) d_Ta_popAll_1 ?_
  refine aw_iconstN (pc := 4) X 1 d_Ta_popAll_4 (by decide) ?_
  -- stop 5 lv=0:r,1:r,2:n,3:n st=n,n
  refine aw_isub (pc := 5) X d_Ta_popAll_5 ?_
  rw [dV_sub]
  refine aw_istore (pc := 6) X (lv' := [(4, _), (0, _), (1, _), (2, _), (3, _)]) d_Ta_popAll_6 (by decide) (by rfl) ?_
  -- stop 8 lv=4:i,0:r,1:r,2:n,3:n st=
  exact L T.length w (Nat.le_refl _) (by simpa using h0) (fr.refl _ _ _)
theorem c_Ca_from {a n dp i : Nat} {t : Def} {st : Nat → Nat} {bg : Bool} (ha : a + 6 < nx) (hi : i < 100) (ho : okSt st n) (h : hCa G w a t st n dp bg) : AC G y_Ca_from b_Ca_from 2 (some .int) d false [rf G a, .int (nI i)] nx w 0 0 (fun r w' nx' => nx' = nx ∧ w' = w ∧ r = some (.int (nI (frm st n i)))) := by
  obtain ⟨h1, -, h3⟩ := h
  have h1' : w a = aObj 7 [rf G (a + 1), rf G 319, rf G (a + 6), .int (nI n), .int (nI dp), .int (nI (bN bg))] := h1
  have hn := ho.1
  refine AC.ofW (by decide) (Nat.le_of_ble_eq_true rfl) ?_
  intro E P hP Y X
  have X : aw_X G "RescanDesk$Call" b_Ca_from 2 (some .int) "from" _ _ _ _ _ E := X
  refine AW.eql (lv' := [(0, _), (1, _)]) (by rfl) ?_
  refine aw_iload_n (pc := 0) X d_Ca_from_0 (by rfl) ?_
  refine aw_iconstN (pc := 1) X 1 d_Ca_from_1 (by decide) ?_
  refine aw_icmp_ltN (pc := 2) X (tgt := 24) d_Ca_from_2 (by rfl) (by omega) (by omega) (fun h2 => ?_) (fun h2 => ?_)
  -- br 2 lv=0:r,1:n st=
  · refine aw_iconstN (pc := 24) X 0 d_Ca_from_24 (by decide) ?_
    refine aw_iret Y X rfl d_Ca_from_25 (by omega) (by omega) (hP _ _ _ ?_)
    -- ret 25 lv=0:r,1:n st=n
    exact ⟨rfl, rfl, by rw [frm, if_neg (by omega)]⟩
  · refine aw_iload_n (pc := 5) X d_Ca_from_5 (by rfl) ?_
    refine aw_aload_nR (pc := 6) X d_Ca_from_6 (by rfl) ?_
    refine aw_getO (pc := 7) X _ 3 (by omega) (by (repeat (first | rw [aw_up_eq] | rw [aw_up_ne _ _ (by first | assumption | omega)])) <;> first | assumption | rfl) (by rfl) in_Ca (by decide) k_285 (by rfl) d_Ca_from_7 ?_
    refine aw_icmp_gtN (pc := 10) X (tgt := 24) d_Ca_from_10 (by rfl) (by omega) (by omega) (fun h10 => ?_) (fun h10 => ?_)
    -- br 10 lv=0:r,1:n st=
    · refine aw_iconstN (pc := 24) X 0 d_Ca_from_24 (by decide) ?_
      refine aw_iret Y X rfl d_Ca_from_25 (by omega) (by omega) (hP _ _ _ ?_)
      -- ret 25 lv=0:r,1:n st=n
      exact ⟨rfl, rfl, by rw [frm, if_neg (by omega)]⟩
    · refine aw_aload_nR (pc := 13) X d_Ca_from_13 (by rfl) ?_
      refine aw_getO (pc := 14) X _ 2 (by omega) (by (repeat (first | rw [aw_up_eq] | rw [aw_up_ne _ _ (by first | assumption | omega)])) <;> first | assumption | rfl) (by rfl) in_Ca (by decide) k_283 (by rfl) d_Ca_from_14 ?_
      refine aw_iload_n (pc := 17) X d_Ca_from_17 (by rfl) ?_
      refine aw_iconstN (pc := 18) X 1 d_Ca_from_18 (by decide) ?_
      refine aw_isubN (pc := 19) X d_Ca_from_19 (by omega) ?_
      refine aw_ialdN (pc := 20) X _ 1 (by omega) (by (repeat (first | rw [aw_up_eq] | rw [aw_up_ne _ _ (by first | assumption | omega)])) <;> first | assumption | rfl) (by rfl) (by omega) (by omega) d_Ca_from_20 ?_
      refine aw_goto (pc := 21) X (tgt := 25) d_Ca_from_21 (by rfl) ?_
      refine aw_iret Y X rfl d_Ca_from_25 (by omega) (by omega) (hP _ _ _ ?_)
      -- ret 25 lv=0:r,1:n st=n
      exact ⟨rfl, rfl, by rw [frm, if_pos (by omega)]⟩
theorem c_Ca_to {a n dp i : Nat} {t : Def} {st : Nat → Nat} {bg : Bool} (ha : a + 6 < nx) (hi : i < 100) (ho : okSt st n) (h : hCa G w a t st n dp bg) : AC G y_Ca_to b_Ca_to 2 (some .int) d false [rf G a, .int (nI i)] nx w 0 0 (fun r w' nx' => nx' = nx ∧ w' = w ∧ r = some (.int (nI (too st n i)))) := by
  obtain ⟨h1, -, h3⟩ := h
  have h1' : w a = aObj 7 [rf G (a + 1), rf G 319, rf G (a + 6), .int (nI n), .int (nI dp), .int (nI (bN bg))] := h1
  have hn := ho.1
  refine AC.ofW (by decide) (Nat.le_of_ble_eq_true rfl) ?_
  intro E P hP Y X
  have X : aw_X G "RescanDesk$Call" b_Ca_to 2 (some .int) "to" _ _ _ _ _ E := X
  refine AW.eql (lv' := [(0, _), (1, _)]) (by rfl) ?_
  refine aw_iload_n (pc := 0) X d_Ca_to_0 (by rfl) ?_
  refine aw_iconstN (pc := 1) X 1 d_Ca_to_1 (by decide) ?_
  refine aw_icmp_ltN (pc := 2) X (tgt := 22) d_Ca_to_2 (by rfl) (by omega) (by omega) (fun h2 => ?_) (fun h2 => ?_)
  -- br 2 lv=0:r,1:n st=
  · refine aw_iconstN (pc := 22) X 0 d_Ca_to_22 (by decide) ?_
    refine aw_iret Y X rfl d_Ca_to_23 (by omega) (by omega) (hP _ _ _ ?_)
    -- ret 23 lv=0:r,1:n st=n
    exact ⟨rfl, rfl, by rw [too, if_neg (by omega)]⟩
  · refine aw_iload_n (pc := 5) X d_Ca_to_5 (by rfl) ?_
    refine aw_aload_nR (pc := 6) X d_Ca_to_6 (by rfl) ?_
    refine aw_getO (pc := 7) X _ 3 (by omega) (by (repeat (first | rw [aw_up_eq] | rw [aw_up_ne _ _ (by first | assumption | omega)])) <;> first | assumption | rfl) (by rfl) in_Ca (by decide) k_285 (by rfl) d_Ca_to_7 ?_
    refine aw_icmp_gtN (pc := 10) X (tgt := 22) d_Ca_to_10 (by rfl) (by omega) (by omega) (fun h10 => ?_) (fun h10 => ?_)
    -- br 10 lv=0:r,1:n st=
    · refine aw_iconstN (pc := 22) X 0 d_Ca_to_22 (by decide) ?_
      refine aw_iret Y X rfl d_Ca_to_23 (by omega) (by omega) (hP _ _ _ ?_)
      -- ret 23 lv=0:r,1:n st=n
      exact ⟨rfl, rfl, by rw [too, if_neg (by omega)]⟩
    · refine aw_aload_nR (pc := 13) X d_Ca_to_13 (by rfl) ?_
      refine aw_getO (pc := 14) X _ 2 (by omega) (by (repeat (first | rw [aw_up_eq] | rw [aw_up_ne _ _ (by first | assumption | omega)])) <;> first | assumption | rfl) (by rfl) in_Ca (by decide) k_283 (by rfl) d_Ca_to_14 ?_
      refine aw_iload_n (pc := 17) X d_Ca_to_17 (by rfl) ?_
      refine aw_ialdN (pc := 18) X _ 1 (by omega) (by (repeat (first | rw [aw_up_eq] | rw [aw_up_ne _ _ (by first | assumption | omega)])) <;> first | assumption | rfl) (by rfl) (by omega) (by omega) d_Ca_to_18 ?_
      refine aw_goto (pc := 19) X (tgt := 23) d_Ca_to_19 (by rfl) ?_
      refine aw_iret Y X rfl d_Ca_to_23 (by omega) (by omega) (hP _ _ _ ?_)
      -- ret 23 lv=0:r,1:n st=n
      exact ⟨rfl, rfl, by rw [too, if_pos (by omega)]⟩
theorem c_Ca_length {a n dp i : Nat} {t : Def} {st : Nat → Nat} {bg : Bool} (ha : a + 6 < nx) (hd : 1 ≤ d) (hi : i < 100) (ho : okSt st n) (h : hCa G w a t st n dp bg) : AC G y_Ca_length b_Ca_length 2 (some .int) d false [rf G a, .int (nI i)] nx w 0 0 (fun r w' nx' => nx' = nx ∧ w' = w ∧ r = some (.int (nI (too st n i - frm st n i)))) := by
  have h1 := h.1
  have hft := ho.ft i
  refine AC.ofW (by decide) (Nat.le_of_ble_eq_true rfl) ?_
  intro E P hP Y X
  have X : aw_X G "RescanDesk$Call" b_Ca_length 2 (some .int) "length" _ _ _ _ _ E := X
  refine AW.eql (lv' := [(0, _), (1, _)]) (by rfl) ?_
  refine aw_aload_nR (pc := 0) X d_Ca_length_0 (by rfl) ?_
  refine aw_iload_n (pc := 1) X d_Ca_length_1 (by rfl) ?_
  -- invokevirtual 2 lv=0:r,1:n st=n,r
  refine aw_callV (pc := 2) X _ (c_Ca_to (d := 0) ha hi ho h) q_Ca_to k_671 k_632 k_633 (by omega) h1 (by rfl) d_Ca_length_2 (by omega) (Nat.le_of_ble_eq_true rfl) ⟨by omega, by omega⟩ (fun h => by cases h) (fun r w2 nx2 hp => ?_)
  obtain ⟨rfl, rfl, rfl⟩ := hp
  refine aw_aload_nR (pc := 5) X d_Ca_length_5 (by rfl) ?_
  refine aw_iload_n (pc := 6) X d_Ca_length_6 (by rfl) ?_
  -- invokevirtual 7 lv=0:r,1:n st=n,r,n
  refine aw_callV (pc := 7) X _ (c_Ca_from (d := 0) ha hi ho h) q_Ca_from k_672 k_628 k_629 (by omega) h1 (by rfl) d_Ca_length_7 (by omega) (Nat.le_of_ble_eq_true rfl) ⟨by omega, by omega⟩ (fun h => by cases h) (fun r w2 nx2 hp => ?_)
  obtain ⟨rfl, rfl, rfl⟩ := hp
  refine aw_isubN (pc := 10) X d_Ca_length_10 (by omega) ?_
  refine aw_iret Y X rfl d_Ca_length_11 (by omega) (by omega) (hP _ _ _ ?_)
  -- ret 11 lv=0:r,1:n st=n
  exact ⟨rfl, rfl, rfl⟩
theorem c_Ca_value {a n dp i : Nat} {t : Def} {st gg : Nat → Nat} {bg : Bool} (ha : a + 6 < nx) (h319 : 319 < nx) (hd : 2 ≤ d) (hi : i < 100) (ho : okSt st n) (h : hCa G w a t st n dp bg) (hg : ∀ j, gg j < 65536) (hgg : w 319 = aCh G 400 gg) : AC G y_Ca_value b_Ca_value 2 (some .long) d false [rf G a, .int (nI i)] nx w 0 0 (fun r w' nx' => nx' = nx ∧ w' = w ∧ r = some (.long (valL (argL gg st n i)))) := by
  have h1 := h.1
  have h1' : w a = aObj 7 [rf G (a + 1), rf G 319, rf G (a + 6), .int (nI n), .int (nI dp), .int (nI (bN bg))] := h1
  have hft := ho.ft i
  refine AC.ofW (by decide) (Nat.le_of_ble_eq_true rfl) ?_
  intro E P hP Y X
  have X : aw_X G "RescanDesk$Call" b_Ca_value 2 (some .long) "value" _ _ _ _ _ E := X
  refine AW.eql (lv' := [(0, _), (1, _)]) (by rfl) ?_
  refine aw_aload_nR (pc := 0) X d_Ca_value_0 (by rfl) ?_
  refine aw_getO (pc := 1) X _ 1 (by omega) (by (repeat (first | rw [aw_up_eq] | rw [aw_up_ne _ _ (by first | assumption | omega)])) <;> first | assumption | rfl) (by rfl) in_Ca (by decide) k_281 (by rfl) d_Ca_value_1 ?_
  refine aw_aload_nR (pc := 4) X d_Ca_value_4 (by rfl) ?_
  refine aw_iload_n (pc := 5) X d_Ca_value_5 (by rfl) ?_
  -- invokevirtual 6 lv=0:r,1:n st=n,r,r
  refine aw_callV (pc := 6) X _ (c_Ca_from (d := 0) ha hi ho h) q_Ca_from k_672 k_628 k_629 (by omega) h1 (by rfl) d_Ca_value_6 (by omega) (Nat.le_of_ble_eq_true rfl) ⟨by omega, by omega⟩ (fun h => by cases h) (fun r w2 nx2 hp => ?_)
  obtain ⟨rfl, rfl, rfl⟩ := hp
  refine aw_aload_nR (pc := 9) X d_Ca_value_9 (by rfl) ?_
  refine aw_iload_n (pc := 10) X d_Ca_value_10 (by rfl) ?_
  -- invokevirtual 11 lv=0:r,1:n st=n,r,n,r
  refine aw_callV (pc := 11) X _ (c_Ca_to (d := 0) ha hi ho h) q_Ca_to k_671 k_632 k_633 (by omega) h1 (by rfl) d_Ca_value_11 (by omega) (Nat.le_of_ble_eq_true rfl) ⟨by omega, by omega⟩ (fun h => by cases h) (fun r w2 nx2 hp => ?_)
  obtain ⟨rfl, rfl, rfl⟩ := hp
  refine aw_callSN (pc := 14) X (c_Rd_valueOf (d := 1) (q := 319) (l := 400) h319 (by omega) (by omega) hft.1 hft.2 hg hgg) q_Rd_valueOf k_703 k_704 d_Ca_value_14 (by omega) (Nat.le_of_ble_eq_true rfl) ⟨by omega, by omega⟩ (fun h => by cases h) (fun r w2 nx2 hp => ?_)
  obtain ⟨rfl, rfl, rfl⟩ := hp
  refine aw_lret Y X rfl d_Ca_value_17 (by omega) (by omega) (hP _ _ _ ?_)
  -- ret 17 lv=0:r,1:n st=l
  exact ⟨rfl, rfl, rfl⟩
/-- whether the argument x stands at place p of the argument y -/
def stnd (gg st : Nat → Nat) (n x y p : Nat) : Bool := decide (p + (argL gg st n x).length ≤ (argL gg st n y).length ∧ argL gg st n x = ((argL gg st n y).drop p).take (argL gg st n x).length)
theorem argL_len (gg st : Nat → Nat) (n i : Nat) : (argL gg st n i).length = too st n i - frm st n i := sl_len _ _ _
theorem sl_drop (g : Nat → Nat) (s n k : Nat) (h : k ≤ n) : (sl g s n).drop k = sl g (s + k) (n - k) := by
  conv => lhs; rw [show n = k + (n - k) by omega, sl_app]
  rw [List.drop_append_of_le_length (by rw [sl_len]; exact Nat.le_refl _), List.drop_of_length_le (by rw [sl_len]; exact Nat.le_refl _), List.nil_append]
theorem c_Ca_stands {a n dp x y p : Nat} {t : Def} {st gg : Nat → Nat} {bg : Bool} (ha : a + 6 < nx) (h319 : 319 < nx) (hd : 2 ≤ d) (hx : x < 100) (hy : y < 100) (hp0 : p ≤ too st n y - frm st n y) (ho : okSt st n) (h : hCa G w a t st n dp bg) (hg : ∀ j, gg j < 65536) (hgg : w 319 = aCh G 400 gg) : AC G y_Ca_stands b_Ca_stands 6 (some .boolean) d false [rf G a, .int (nI x), .int (nI y), .int (nI p)] nx w 0 0 (fun r w' nx' => nx' = nx ∧ w' = w ∧ r = some (.int (nI (bN (stnd gg st n x y p))))) := by
  have h1 := h.1
  have h1' : w a = aObj 7 [rf G (a + 1), rf G 319, rf G (a + 6), .int (nI n), .int (nI dp), .int (nI (bN bg))] := h1
  have hfx := ho.ft x
  have hfy := ho.ft y
  refine AC.ofW (by decide) (Nat.le_of_ble_eq_true rfl) ?_
  intro E P hP Y X
  have X : aw_X G "RescanDesk$Call" b_Ca_stands 6 (some .boolean) "stands" _ _ _ _ _ E := X
  refine AW.eql (lv' := [(0, _), (1, _), (2, _), (3, _)]) (by rfl) ?_
  refine aw_aload_nR (pc := 0) X d_Ca_stands_0 (by rfl) ?_
  refine aw_iload_n (pc := 1) X d_Ca_stands_1 (by rfl) ?_
  -- invokevirtual 2 lv=0:r,1:n,2:n,3:n st=n,r
  refine aw_callV (pc := 2) X _ (c_Ca_length (d := 1) ha (by omega) hx ho h) q_Ca_length k_783 k_668 k_669 (by omega) h1 (by rfl) d_Ca_stands_2 (by omega) (Nat.le_of_ble_eq_true rfl) ⟨by omega, by omega⟩ (fun h => by cases h) (fun r w2 nx2 hp => ?_)
  obtain ⟨rfl, rfl, rfl⟩ := hp
  refine aw_istore (pc := 5) X (lv' := [(4, _), (0, _), (1, _), (2, _), (3, _)]) d_Ca_stands_5 (by decide) (by rfl) ?_
  refine aw_iload_n (pc := 7) X d_Ca_stands_7 (by rfl) ?_
  refine aw_if_ltN (pc := 8) X (tgt := 23) d_Ca_stands_8 (by rfl) (by omega) ?_
  refine aw_iload (pc := 11) X d_Ca_stands_11 (by rfl) ?_
  refine aw_aload_nR (pc := 13) X d_Ca_stands_13 (by rfl) ?_
  refine aw_iload_n (pc := 14) X d_Ca_stands_14 (by rfl) ?_
  -- invokevirtual 15 lv=4:n,0:r,1:n,2:n,3:n st=n,r,n
  refine aw_callV (pc := 15) X _ (c_Ca_length (d := 1) ha (by omega) hy ho h) q_Ca_length k_783 k_668 k_669 (by omega) h1 (by rfl) d_Ca_stands_15 (by omega) (Nat.le_of_ble_eq_true rfl) ⟨by omega, by omega⟩ (fun h => by cases h) (fun r w2 nx2 hp => ?_)
  obtain ⟨rfl, rfl, rfl⟩ := hp
  refine aw_iload_n (pc := 18) X d_Ca_stands_18 (by rfl) ?_
  refine aw_isubN (pc := 19) X d_Ca_stands_19 (by omega) ?_
  refine aw_icmp_leN (pc := 20) X (tgt := 25) d_Ca_stands_20 (by rfl) (by omega) (by omega) (fun h20 => ?_) (fun h20 => ?_)
  -- br 20 lv=4:n,0:r,1:n,2:n,3:n st=
  · have hfit : p + (argL gg st n x).length ≤ (argL gg st n y).length := by rw [argL_len, argL_len]; omega
    have hcond : stnd gg st n x y p = true ↔ ∀ i, i < too st n x - frm st n x → gg (frm st n x + i) = gg (frm st n y + p + i) := by
      unfold stnd
      rw [decide_eq_true_iff]
      have e : ((argL gg st n y).drop p).take (argL gg st n x).length = sl gg (frm st n y + p) (too st n x - frm st n x) := by
        rw [argL_len]
        unfold argL
        rw [sl_drop _ _ _ _ (by omega), sl_take _ _ _ _ (by omega)]
      rw [e]
      exact ⟨fun q => sl_eq.mp q.2, fun q => ⟨hfit, sl_eq.mpr q⟩⟩
    have L : ∀ (k i : Nat), i + k = too st n x - frm st n x → (∀ j, j < i → gg (frm st n x + j) = gg (frm st n y + p + j)) → AW G E 6 nx2 0 0 w2 28 [(5, .int (nI i)), (4, .int (nI (too st n x - frm st n x))), (0, rf G a), (1, .int (nI x)), (2, .int (nI y)), (3, .int (nI p))] [] := by
      intro k
      induction k with
      | zero =>
        intro i hi hj
        refine aw_iload (pc := 28) X d_Ca_stands_28 (by rfl) ?_
        refine aw_iload (pc := 30) X d_Ca_stands_30 (by rfl) ?_
        refine aw_icmp_geN (pc := 32) X (tgt := 74) d_Ca_stands_32 (by rfl) (by omega) (by omega) (fun h32 => ?_) (fun h32 => ?_)
        -- br 32 lv=5:n,4:n,0:r,1:n,2:n,3:n st=
        · refine aw_iconstN (pc := 74) X 1 d_Ca_stands_74 (by decide) ?_
          refine aw_zret Y X rfl (by decide +kernel) d_Ca_stands_75 (by omega) (by omega) (hP _ _ _ ?_)
          -- ret 75 lv=5:n,4:n,0:r,1:n,2:n,3:n st=n
          exact ⟨rfl, rfl, by rw [hcond.mpr (fun j hj' => hj j (by omega))]; rfl⟩
        · omega
      | succ k ih =>
        intro i hi hj
        have q1 := hg (frm st n x + i)
        have q2 := hg (frm st n y + p + i)
        refine aw_iload (pc := 28) X d_Ca_stands_28 (by rfl) ?_
        refine aw_iload (pc := 30) X d_Ca_stands_30 (by rfl) ?_
        refine aw_icmp_geN (pc := 32) X (tgt := 74) d_Ca_stands_32 (by rfl) (by omega) (by omega) (fun h32 => ?_) (fun h32 => ?_)
        -- br 32 lv=5:n,4:n,0:r,1:n,2:n,3:n st=
        · omega
        · refine aw_aload_nR (pc := 35) X d_Ca_stands_35 (by rfl) ?_
          refine aw_getO (pc := 36) X _ 1 (by omega) (by (repeat (first | rw [aw_up_eq] | rw [aw_up_ne _ _ (by first | assumption | omega)])) <;> first | assumption | rfl) (by rfl) in_Ca (by decide) k_281 (by rfl) d_Ca_stands_36 ?_
          refine aw_aload_nR (pc := 39) X d_Ca_stands_39 (by rfl) ?_
          refine aw_iload_n (pc := 40) X d_Ca_stands_40 (by rfl) ?_
          -- invokevirtual 41 lv=5:n,4:n,0:r,1:n,2:n,3:n st=n,r,r
          refine aw_callV (pc := 41) X _ (c_Ca_from (d := 0) ha hx ho h) q_Ca_from k_672 k_628 k_629 (by omega) h1 (by rfl) d_Ca_stands_41 (by omega) (Nat.le_of_ble_eq_true rfl) ⟨by omega, by omega⟩ (fun h => by cases h) (fun r w2 nx2 hp => ?_)
          obtain ⟨rfl, rfl, rfl⟩ := hp
          refine aw_iload (pc := 44) X d_Ca_stands_44 (by rfl) ?_
          refine aw_iaddN (pc := 46) X d_Ca_stands_46 ?_
          refine aw_caldN (pc := 47) X _ 0 (by omega) (by (repeat (first | rw [aw_up_eq] | rw [aw_up_ne _ _ (by first | assumption | omega)])) <;> first | assumption | rfl) (by rfl) (by omega) (by omega) d_Ca_stands_47 ?_
          refine aw_aload_nR (pc := 48) X d_Ca_stands_48 (by rfl) ?_
          refine aw_getO (pc := 49) X _ 1 (by omega) (by (repeat (first | rw [aw_up_eq] | rw [aw_up_ne _ _ (by first | assumption | omega)])) <;> first | assumption | rfl) (by rfl) in_Ca (by decide) k_281 (by rfl) d_Ca_stands_49 ?_
          refine aw_aload_nR (pc := 52) X d_Ca_stands_52 (by rfl) ?_
          refine aw_iload_n (pc := 53) X d_Ca_stands_53 (by rfl) ?_
          -- invokevirtual 54 lv=5:n,4:n,0:r,1:n,2:n,3:n st=n,r,r,n
          refine aw_callV (pc := 54) X _ (c_Ca_from (d := 0) ha hy ho h) q_Ca_from k_672 k_628 k_629 (by omega) h1 (by rfl) d_Ca_stands_54 (by omega) (Nat.le_of_ble_eq_true rfl) ⟨by omega, by omega⟩ (fun h => by cases h) (fun r w2 nx2 hp => ?_)
          obtain ⟨rfl, rfl, rfl⟩ := hp
          refine aw_iload_n (pc := 57) X d_Ca_stands_57 (by rfl) ?_
          refine aw_iaddN (pc := 58) X d_Ca_stands_58 ?_
          refine aw_iload (pc := 59) X d_Ca_stands_59 (by rfl) ?_
          refine aw_iaddN (pc := 61) X d_Ca_stands_61 ?_
          refine aw_caldN (pc := 62) X _ 0 (by omega) (by (repeat (first | rw [aw_up_eq] | rw [aw_up_ne _ _ (by first | assumption | omega)])) <;> first | assumption | rfl) (by rfl) (by omega) (by omega) d_Ca_stands_62 ?_
          refine aw_icmp_eqN (pc := 63) X (tgt := 68) d_Ca_stands_63 (by rfl) (by omega) (by omega) (fun h63 => ?_) (fun h63 => ?_)
          -- br 63 lv=5:n,4:n,0:r,1:n,2:n,3:n st=
          · refine aw_iincN (pc := 68) X 1 (lv' := [(5, _), (4, _), (0, _), (1, _), (2, _), (3, _)]) d_Ca_stands_68 (by rfl) (by decide) (by decide) (by rfl) ?_
            refine aw_goto (pc := 71) X (tgt := 28) d_Ca_stands_71 (by rfl) ?_
            -- stop 28 lv=5:n,4:n,0:r,1:n,2:n,3:n st=
            exact ih (i + 1) (by omega) (fun j hj' => by
              rcases Nat.lt_succ_iff_lt_or_eq.mp hj' with h | h
              · exact hj j h
              · rw [h]; exact h63)
          · have hf : stnd gg st n x y p = false := by
              cases hs : stnd gg st n x y p with
              | false => rfl
              | true => exact absurd (hcond.mp hs i (by omega)) h63
            refine aw_iconstN (pc := 66) X 0 d_Ca_stands_66 (by decide) ?_
            refine aw_zret Y X rfl (by decide +kernel) d_Ca_stands_67 (by omega) (by omega) (hP _ _ _ ?_)
            -- ret 67 lv=5:n,4:n,0:r,1:n,2:n,3:n st=n
            exact ⟨rfl, rfl, by rw [hf]; rfl⟩
    refine aw_iconstN (pc := 25) X 0 d_Ca_stands_25 (by decide) ?_
    refine aw_istore (pc := 26) X (lv' := [(5, _), (4, _), (0, _), (1, _), (2, _), (3, _)]) d_Ca_stands_26 (by decide) (by rfl) ?_
    -- stop 28 lv=5:n,4:n,0:r,1:n,2:n,3:n st=
    exact L (too st n x - frm st n x) 0 (Nat.zero_add _) (fun j hj => absurd hj (by omega))
  · have hf : stnd gg st n x y p = false := decide_eq_false (fun q => by have := q.1; rw [argL_len, argL_len] at this; omega)
    refine aw_iconstN (pc := 23) X 0 d_Ca_stands_23 (by decide) ?_
    refine aw_zret Y X rfl (by decide +kernel) d_Ca_stands_24 (by omega) (by omega) (hP _ _ _ ?_)
    -- ret 24 lv=4:n,0:r,1:n,2:n,3:n st=n
    exact ⟨rfl, rfl, by rw [hf]; rfl⟩
theorem c_Ca_isSame {a n dp x y : Nat} {t : Def} {st gg : Nat → Nat} {bg : Bool} (ha : a + 6 < nx) (h319 : 319 < nx) (hd : 3 ≤ d) (hx : x < 100) (hy : y < 100) (ho : okSt st n) (h : hCa G w a t st n dp bg) (hg : ∀ j, gg j < 65536) (hgg : w 319 = aCh G 400 gg) : AC G y_Ca_isSame b_Ca_isSame 3 (some .boolean) d false [rf G a, .int (nI x), .int (nI y)] nx w 0 0 (fun r w' nx' => nx' = nx ∧ w' = w ∧ r = some (.int (nI (bN (decide (argL gg st n x = argL gg st n y)))))) := by
  have h1 := h.1
  have hfx := ho.ft x
  have hfy := ho.ft y
  refine AC.ofW (by decide) (Nat.le_of_ble_eq_true rfl) ?_
  intro E P hP Y X
  have X : aw_X G "RescanDesk$Call" b_Ca_isSame 3 (some .boolean) "isSame" _ _ _ _ _ E := X
  refine AW.eql (lv' := [(0, _), (1, _), (2, _)]) (by rfl) ?_
  refine aw_aload_nR (pc := 0) X d_Ca_isSame_0 (by rfl) ?_
  refine aw_iload_n (pc := 1) X d_Ca_isSame_1 (by rfl) ?_
  -- invokevirtual 2 lv=0:r,1:n,2:n st=n,r
  refine aw_callV (pc := 2) X _ (c_Ca_length (d := 1) ha (by omega) hx ho h) q_Ca_length k_783 k_668 k_669 (by omega) h1 (by rfl) d_Ca_isSame_2 (by omega) (Nat.le_of_ble_eq_true rfl) ⟨by omega, by omega⟩ (fun h => by cases h) (fun r w2 nx2 hp => ?_)
  obtain ⟨rfl, rfl, rfl⟩ := hp
  refine aw_aload_nR (pc := 5) X d_Ca_isSame_5 (by rfl) ?_
  refine aw_iload_n (pc := 6) X d_Ca_isSame_6 (by rfl) ?_
  -- invokevirtual 7 lv=0:r,1:n,2:n st=n,r,n
  refine aw_callV (pc := 7) X _ (c_Ca_length (d := 1) ha (by omega) hy ho h) q_Ca_length k_783 k_668 k_669 (by omega) h1 (by rfl) d_Ca_isSame_7 (by omega) (Nat.le_of_ble_eq_true rfl) ⟨by omega, by omega⟩ (fun h => by cases h) (fun r w2 nx2 hp => ?_)
  obtain ⟨rfl, rfl, rfl⟩ := hp
  refine aw_icmp_neN (pc := 10) X (tgt := 27) d_Ca_isSame_10 (by rfl) (by omega) (by omega) (fun h10 => ?_) (fun h10 => ?_)
  -- br 10 lv=0:r,1:n,2:n st=
  · refine aw_iconstN (pc := 27) X 0 d_Ca_isSame_27 (by decide) ?_
    refine aw_zret Y X rfl (by decide +kernel) d_Ca_isSame_28 (by omega) (by omega) (hP _ _ _ ?_)
    -- ret 28 lv=0:r,1:n,2:n st=n
    exact ⟨rfl, rfl, by rw [decide_eq_false (fun q => h10 (by have := congrArg List.length q; rwa [argL_len, argL_len] at this))]; rfl⟩
  · have e : stnd gg st n y x 0 = decide (argL gg st n x = argL gg st n y) := by
      unfold stnd
      have hl : (argL gg st n y).length = (argL gg st n x).length := by rw [argL_len, argL_len]; omega
      rw [List.drop_zero, hl, List.take_length]
      by_cases q : argL gg st n x = argL gg st n y
      · rw [decide_eq_true q, decide_eq_true ⟨by omega, q.symm⟩]
      · rw [decide_eq_false q, decide_eq_false (fun z => q z.2.symm)]
    refine aw_aload_nR (pc := 13) X d_Ca_isSame_13 (by rfl) ?_
    refine aw_iload_n (pc := 14) X d_Ca_isSame_14 (by rfl) ?_
    refine aw_iload_n (pc := 15) X d_Ca_isSame_15 (by rfl) ?_
    refine aw_iconstN (pc := 16) X 0 d_Ca_isSame_16 (by decide) ?_
    -- invokevirtual 17 lv=0:r,1:n,2:n st=n,n,n,r
    refine aw_callV (pc := 17) X _ (c_Ca_stands (d := 2) ha h319 (by omega) hy hx (by omega) ho h hg hgg) q_Ca_stands k_784 k_785 k_786 (by omega) h1 (by rfl) d_Ca_isSame_17 (by omega) (Nat.le_of_ble_eq_true rfl) ⟨by omega, by omega⟩ (fun h => by cases h) (fun r w2 nx2 hp => ?_)
    obtain ⟨rfl, rfl, rfl⟩ := hp
    rw [e]
    have hb := bN_lt (decide (argL gg st n x = argL gg st n y))
    refine aw_if_eqN (pc := 20) X (tgt := 27) d_Ca_isSame_20 (by rfl) (by omega) (fun h20 => ?_) (fun h20 => ?_)
    -- br 20 lv=0:r,1:n,2:n st=
    · refine aw_iconstN (pc := 27) X 0 d_Ca_isSame_27 (by decide) ?_
      refine aw_zret Y X rfl (by decide +kernel) d_Ca_isSame_28 (by omega) (by omega) (hP _ _ _ ?_)
      -- ret 28 lv=0:r,1:n,2:n st=n
      exact ⟨rfl, rfl, by rw [bN_eq.mp h20]; rfl⟩
    · refine aw_iconstN (pc := 23) X 1 d_Ca_isSame_23 (by decide) ?_
      refine aw_goto (pc := 24) X (tgt := 28) d_Ca_isSame_24 (by rfl) ?_
      refine aw_zret Y X rfl (by decide +kernel) d_Ca_isSame_28 (by omega) (by omega) (hP _ _ _ ?_)
      -- ret 28 lv=0:r,1:n,2:n st=n
      exact ⟨rfl, rfl, by rw [bN_ne.mp h20]; rfl⟩
end
end
section
/-! RescanDesk$Calls at 317, its gathered text at 318, its calls from 321 on, the bare one at 405 -/
def y_Cs_init : MethodName := ⟨"RescanDesk$Calls", "<init>", "()V"⟩
abbrev b_Cs_init : ByteArray := prog_5_method_1_code
theorem d_Cs_init_0 : decode b_Cs_init 0 = .ok (.aload_n 0, 1) := by decide +kernel
theorem d_Cs_init_1 : decode b_Cs_init 1 = .ok (.invokespecial 3, 3) := by decide +kernel
theorem d_Cs_init_4 : decode b_Cs_init 4 = .ok (.aload_n 0, 1) := by decide +kernel
theorem d_Cs_init_5 : decode b_Cs_init 5 = .ok (.new 9, 3) := by decide +kernel
theorem d_Cs_init_8 : decode b_Cs_init 8 = .ok (.dup, 1) := by decide +kernel
theorem d_Cs_init_9 : decode b_Cs_init 9 = .ok (.sipush 400, 3) := by decide +kernel
theorem d_Cs_init_12 : decode b_Cs_init 12 = .ok (.invokespecial 11, 3) := by decide +kernel
theorem d_Cs_init_15 : decode b_Cs_init 15 = .ok (.putfield 14, 3) := by decide +kernel
theorem d_Cs_init_18 : decode b_Cs_init 18 = .ok (.aload_n 0, 1) := by decide +kernel
theorem d_Cs_init_19 : decode b_Cs_init 19 = .ok (.bipush 12, 2) := by decide +kernel
theorem d_Cs_init_21 : decode b_Cs_init 21 = .ok (.anewarray 20, 3) := by decide +kernel
theorem d_Cs_init_24 : decode b_Cs_init 24 = .ok (.putfield 22, 3) := by decide +kernel
theorem d_Cs_init_27 : decode b_Cs_init 27 = .ok (.iconst 0, 1) := by decide +kernel
theorem d_Cs_init_28 : decode b_Cs_init 28 = .ok (.istore_n 1, 1) := by decide +kernel
theorem d_Cs_init_29 : decode b_Cs_init 29 = .ok (.iload_n 1, 1) := by decide +kernel
theorem d_Cs_init_30 : decode b_Cs_init 30 = .ok (.bipush 12, 2) := by decide +kernel
theorem d_Cs_init_32 : decode b_Cs_init 32 = .ok (.if_icmp .ge 29, 3) := by decide +kernel
theorem d_Cs_init_35 : decode b_Cs_init 35 = .ok (.aload_n 0, 1) := by decide +kernel
theorem d_Cs_init_36 : decode b_Cs_init 36 = .ok (.getfield 22, 3) := by decide +kernel
theorem d_Cs_init_39 : decode b_Cs_init 39 = .ok (.iload_n 1, 1) := by decide +kernel
theorem d_Cs_init_40 : decode b_Cs_init 40 = .ok (.new 20, 3) := by decide +kernel
theorem d_Cs_init_43 : decode b_Cs_init 43 = .ok (.dup, 1) := by decide +kernel
theorem d_Cs_init_44 : decode b_Cs_init 44 = .ok (.aload_n 0, 1) := by decide +kernel
theorem d_Cs_init_45 : decode b_Cs_init 45 = .ok (.getfield 14, 3) := by decide +kernel
theorem d_Cs_init_48 : decode b_Cs_init 48 = .ok (.getfield 26, 3) := by decide +kernel
theorem d_Cs_init_51 : decode b_Cs_init 51 = .ok (.invokespecial 30, 3) := by decide +kernel
theorem d_Cs_init_54 : decode b_Cs_init 54 = .ok (.aastore, 1) := by decide +kernel
theorem d_Cs_init_55 : decode b_Cs_init 55 = .ok (.iinc 1 1, 3) := by decide +kernel
theorem d_Cs_init_58 : decode b_Cs_init 58 = .ok (.goto (-29), 3) := by decide +kernel
theorem d_Cs_init_61 : decode b_Cs_init 61 = .ok (.aload_n 0, 1) := by decide +kernel
theorem d_Cs_init_62 : decode b_Cs_init 62 = .ok (.new 20, 3) := by decide +kernel
theorem d_Cs_init_65 : decode b_Cs_init 65 = .ok (.dup, 1) := by decide +kernel
theorem d_Cs_init_66 : decode b_Cs_init 66 = .ok (.aload_n 0, 1) := by decide +kernel
theorem d_Cs_init_67 : decode b_Cs_init 67 = .ok (.getfield 14, 3) := by decide +kernel
theorem d_Cs_init_70 : decode b_Cs_init 70 = .ok (.getfield 26, 3) := by decide +kernel
theorem d_Cs_init_73 : decode b_Cs_init 73 = .ok (.invokespecial 30, 3) := by decide +kernel
theorem d_Cs_init_76 : decode b_Cs_init 76 = .ok (.putfield 33, 3) := by decide +kernel
theorem d_Cs_init_79 : decode b_Cs_init 79 = .ok (.aload_n 0, 1) := by decide +kernel
theorem d_Cs_init_80 : decode b_Cs_init 80 = .ok (.iconst 0, 1) := by decide +kernel
theorem d_Cs_init_81 : decode b_Cs_init 81 = .ok (.putfield 37, 3) := by decide +kernel
theorem d_Cs_init_84 : decode b_Cs_init 84 = .ok (.aload_n 0, 1) := by decide +kernel
theorem d_Cs_init_85 : decode b_Cs_init 85 = .ok (.iconst 0, 1) := by decide +kernel
theorem d_Cs_init_86 : decode b_Cs_init 86 = .ok (.putfield 41, 3) := by decide +kernel
theorem d_Cs_init_89 : decode b_Cs_init 89 = .ok (.return_, 1) := by decide +kernel
theorem q_Cs_init : aw_q1 y_Cs_init b_Cs_init 2 none 0 := ⟨k_265, k_75, ⟨by decide, by decide, by decide +kernel⟩, by decide⟩
def y_Cs_begin : MethodName := ⟨"RescanDesk$Calls", "begin", "()V"⟩
abbrev b_Cs_begin : ByteArray := prog_5_method_2_code
theorem d_Cs_begin_0 : decode b_Cs_begin 0 = .ok (.aload_n 0, 1) := by decide +kernel
theorem d_Cs_begin_1 : decode b_Cs_begin 1 = .ok (.getfield 14, 3) := by decide +kernel
theorem d_Cs_begin_4 : decode b_Cs_begin 4 = .ok (.invokevirtual 44, 3) := by decide +kernel
theorem d_Cs_begin_7 : decode b_Cs_begin 7 = .ok (.aload_n 0, 1) := by decide +kernel
theorem d_Cs_begin_8 : decode b_Cs_begin 8 = .ok (.iconst 0, 1) := by decide +kernel
theorem d_Cs_begin_9 : decode b_Cs_begin 9 = .ok (.putfield 37, 3) := by decide +kernel
theorem d_Cs_begin_12 : decode b_Cs_begin 12 = .ok (.aload_n 0, 1) := by decide +kernel
theorem d_Cs_begin_13 : decode b_Cs_begin 13 = .ok (.iconst 0, 1) := by decide +kernel
theorem d_Cs_begin_14 : decode b_Cs_begin 14 = .ok (.putfield 41, 3) := by decide +kernel
theorem d_Cs_begin_17 : decode b_Cs_begin 17 = .ok (.return_, 1) := by decide +kernel
theorem q_Cs_begin : aw_q1 y_Cs_begin b_Cs_begin 1 none 0 := ⟨k_520, k_75, ⟨by decide, by decide, by decide +kernel⟩, by decide⟩
def y_Cs_latest : MethodName := ⟨"RescanDesk$Calls", "latest", "()LRescanDesk$Call;"⟩
abbrev b_Cs_latest : ByteArray := prog_5_method_3_code
theorem d_Cs_latest_0 : decode b_Cs_latest 0 = .ok (.aload_n 0, 1) := by decide +kernel
theorem d_Cs_latest_1 : decode b_Cs_latest 1 = .ok (.getfield 37, 3) := by decide +kernel
theorem d_Cs_latest_4 : decode b_Cs_latest 4 = .ok (.ifCond .le 17, 3) := by decide +kernel
theorem d_Cs_latest_7 : decode b_Cs_latest 7 = .ok (.aload_n 0, 1) := by decide +kernel
theorem d_Cs_latest_8 : decode b_Cs_latest 8 = .ok (.getfield 22, 3) := by decide +kernel
theorem d_Cs_latest_11 : decode b_Cs_latest 11 = .ok (.aload_n 0, 1) := by decide +kernel
theorem d_Cs_latest_12 : decode b_Cs_latest 12 = .ok (.getfield 37, 3) := by decide +kernel
theorem d_Cs_latest_15 : decode b_Cs_latest 15 = .ok (.iconst 1, 1) := by decide +kernel
theorem d_Cs_latest_16 : decode b_Cs_latest 16 = .ok (.isub, 1) := by decide +kernel
theorem d_Cs_latest_17 : decode b_Cs_latest 17 = .ok (.aaload, 1) := by decide +kernel
theorem d_Cs_latest_18 : decode b_Cs_latest 18 = .ok (.goto 4, 3) := by decide +kernel
theorem d_Cs_latest_21 : decode b_Cs_latest 21 = .ok (.aconst_null, 1) := by decide +kernel
theorem d_Cs_latest_22 : decode b_Cs_latest 22 = .ok (.areturn, 1) := by decide +kernel
theorem q_Cs_latest : aw_q1 y_Cs_latest b_Cs_latest 1 (some (.object "RescanDesk$Call")) 0 := ⟨k_591, k_75, ⟨by decide, by decide, by decide +kernel⟩, by decide⟩
def y_Cs_markBegun : MethodName := ⟨"RescanDesk$Calls", "markBegun", "()V"⟩
abbrev b_Cs_markBegun : ByteArray := prog_5_method_4_code
theorem d_Cs_markBegun_0 : decode b_Cs_markBegun 0 = .ok (.aload_n 0, 1) := by decide +kernel
theorem d_Cs_markBegun_1 : decode b_Cs_markBegun 1 = .ok (.getfield 37, 3) := by decide +kernel
theorem d_Cs_markBegun_4 : decode b_Cs_markBegun 4 = .ok (.ifCond .le 18, 3) := by decide +kernel
theorem d_Cs_markBegun_7 : decode b_Cs_markBegun 7 = .ok (.aload_n 0, 1) := by decide +kernel
theorem d_Cs_markBegun_8 : decode b_Cs_markBegun 8 = .ok (.getfield 22, 3) := by decide +kernel
theorem d_Cs_markBegun_11 : decode b_Cs_markBegun 11 = .ok (.aload_n 0, 1) := by decide +kernel
theorem d_Cs_markBegun_12 : decode b_Cs_markBegun 12 = .ok (.getfield 37, 3) := by decide +kernel
theorem d_Cs_markBegun_15 : decode b_Cs_markBegun 15 = .ok (.iconst 1, 1) := by decide +kernel
theorem d_Cs_markBegun_16 : decode b_Cs_markBegun 16 = .ok (.isub, 1) := by decide +kernel
theorem d_Cs_markBegun_17 : decode b_Cs_markBegun 17 = .ok (.aaload, 1) := by decide +kernel
theorem d_Cs_markBegun_18 : decode b_Cs_markBegun 18 = .ok (.iconst 1, 1) := by decide +kernel
theorem d_Cs_markBegun_19 : decode b_Cs_markBegun 19 = .ok (.putfield 47, 3) := by decide +kernel
theorem d_Cs_markBegun_22 : decode b_Cs_markBegun 22 = .ok (.return_, 1) := by decide +kernel
theorem q_Cs_markBegun : aw_q1 y_Cs_markBegun b_Cs_markBegun 1 none 0 := ⟨k_537, k_75, ⟨by decide, by decide, by decide +kernel⟩, by decide⟩
def y_Cs_bare : MethodName := ⟨"RescanDesk$Calls", "bare", "(LRescanDesk$Definition;)LRescanDesk$Call;"⟩
abbrev b_Cs_bare : ByteArray := prog_5_method_5_code
theorem d_Cs_bare_0 : decode b_Cs_bare 0 = .ok (.aload_n 0, 1) := by decide +kernel
theorem d_Cs_bare_1 : decode b_Cs_bare 1 = .ok (.getfield 33, 3) := by decide +kernel
theorem d_Cs_bare_4 : decode b_Cs_bare 4 = .ok (.getfield 51, 3) := by decide +kernel
theorem d_Cs_bare_7 : decode b_Cs_bare 7 = .ok (.aload_n 1, 1) := by decide +kernel
theorem d_Cs_bare_8 : decode b_Cs_bare 8 = .ok (.invokevirtual 55, 3) := by decide +kernel
theorem d_Cs_bare_11 : decode b_Cs_bare 11 = .ok (.aload_n 0, 1) := by decide +kernel
theorem d_Cs_bare_12 : decode b_Cs_bare 12 = .ok (.getfield 33, 3) := by decide +kernel
theorem d_Cs_bare_15 : decode b_Cs_bare 15 = .ok (.areturn, 1) := by decide +kernel
theorem q_Cs_bare : aw_q1 y_Cs_bare b_Cs_bare 2 (some (.object "RescanDesk$Call")) 1 := ⟨k_571, k_75, ⟨by decide, by decide, by decide +kernel⟩, by decide⟩
def y_Cs_start : MethodName := ⟨"RescanDesk$Calls", "start", "(LRescanDesk$Definition;)Z"⟩
abbrev b_Cs_start : ByteArray := prog_5_method_6_code
theorem d_Cs_start_0 : decode b_Cs_start 0 = .ok (.aload_n 0, 1) := by decide +kernel
theorem d_Cs_start_1 : decode b_Cs_start 1 = .ok (.getfield 37, 3) := by decide +kernel
theorem d_Cs_start_4 : decode b_Cs_start 4 = .ok (.bipush 12, 2) := by decide +kernel
theorem d_Cs_start_6 : decode b_Cs_start 6 = .ok (.if_icmp .lt 5, 3) := by decide +kernel
theorem d_Cs_start_9 : decode b_Cs_start 9 = .ok (.iconst 0, 1) := by decide +kernel
theorem d_Cs_start_10 : decode b_Cs_start 10 = .ok (.ireturn, 1) := by decide +kernel
theorem d_Cs_start_11 : decode b_Cs_start 11 = .ok (.aload_n 0, 1) := by decide +kernel
theorem d_Cs_start_12 : decode b_Cs_start 12 = .ok (.getfield 22, 3) := by decide +kernel
theorem d_Cs_start_15 : decode b_Cs_start 15 = .ok (.aload_n 0, 1) := by decide +kernel
theorem d_Cs_start_16 : decode b_Cs_start 16 = .ok (.getfield 37, 3) := by decide +kernel
theorem d_Cs_start_19 : decode b_Cs_start 19 = .ok (.aaload, 1) := by decide +kernel
theorem d_Cs_start_20 : decode b_Cs_start 20 = .ok (.astore_n 2, 1) := by decide +kernel
theorem d_Cs_start_21 : decode b_Cs_start 21 = .ok (.aload_n 2, 1) := by decide +kernel
theorem d_Cs_start_22 : decode b_Cs_start 22 = .ok (.getfield 51, 3) := by decide +kernel
theorem d_Cs_start_25 : decode b_Cs_start 25 = .ok (.aload_n 1, 1) := by decide +kernel
theorem d_Cs_start_26 : decode b_Cs_start 26 = .ok (.invokevirtual 55, 3) := by decide +kernel
theorem d_Cs_start_29 : decode b_Cs_start 29 = .ok (.aload_n 2, 1) := by decide +kernel
theorem d_Cs_start_30 : decode b_Cs_start 30 = .ok (.getfield 61, 3) := by decide +kernel
theorem d_Cs_start_33 : decode b_Cs_start 33 = .ok (.iconst 0, 1) := by decide +kernel
theorem d_Cs_start_34 : decode b_Cs_start 34 = .ok (.aload_n 0, 1) := by decide +kernel
theorem d_Cs_start_35 : decode b_Cs_start 35 = .ok (.getfield 14, 3) := by decide +kernel
theorem d_Cs_start_38 : decode b_Cs_start 38 = .ok (.getfield 65, 3) := by decide +kernel
theorem d_Cs_start_41 : decode b_Cs_start 41 = .ok (.iastore, 1) := by decide +kernel
theorem d_Cs_start_42 : decode b_Cs_start 42 = .ok (.aload_n 2, 1) := by decide +kernel
theorem d_Cs_start_43 : decode b_Cs_start 43 = .ok (.iconst 1, 1) := by decide +kernel
theorem d_Cs_start_44 : decode b_Cs_start 44 = .ok (.putfield 68, 3) := by decide +kernel
theorem d_Cs_start_47 : decode b_Cs_start 47 = .ok (.aload_n 2, 1) := by decide +kernel
theorem d_Cs_start_48 : decode b_Cs_start 48 = .ok (.iconst 0, 1) := by decide +kernel
theorem d_Cs_start_49 : decode b_Cs_start 49 = .ok (.putfield 71, 3) := by decide +kernel
theorem d_Cs_start_52 : decode b_Cs_start 52 = .ok (.aload_n 2, 1) := by decide +kernel
theorem d_Cs_start_53 : decode b_Cs_start 53 = .ok (.iconst 0, 1) := by decide +kernel
theorem d_Cs_start_54 : decode b_Cs_start 54 = .ok (.putfield 47, 3) := by decide +kernel
theorem d_Cs_start_57 : decode b_Cs_start 57 = .ok (.aload_n 0, 1) := by decide +kernel
theorem d_Cs_start_58 : decode b_Cs_start 58 = .ok (.dup, 1) := by decide +kernel
theorem d_Cs_start_59 : decode b_Cs_start 59 = .ok (.getfield 37, 3) := by decide +kernel
theorem d_Cs_start_62 : decode b_Cs_start 62 = .ok (.iconst 1, 1) := by decide +kernel
theorem d_Cs_start_63 : decode b_Cs_start 63 = .ok (.iadd, 1) := by decide +kernel
theorem d_Cs_start_64 : decode b_Cs_start 64 = .ok (.putfield 37, 3) := by decide +kernel
theorem d_Cs_start_67 : decode b_Cs_start 67 = .ok (.aload_n 0, 1) := by decide +kernel
theorem d_Cs_start_68 : decode b_Cs_start 68 = .ok (.aload_n 0, 1) := by decide +kernel
theorem d_Cs_start_69 : decode b_Cs_start 69 = .ok (.getfield 41, 3) := by decide +kernel
theorem d_Cs_start_72 : decode b_Cs_start 72 = .ok (.aload_n 0, 1) := by decide +kernel
theorem d_Cs_start_73 : decode b_Cs_start 73 = .ok (.getfield 37, 3) := by decide +kernel
theorem d_Cs_start_76 : decode b_Cs_start 76 = .ok (.invokestatic 74, 3) := by decide +kernel
theorem d_Cs_start_79 : decode b_Cs_start 79 = .ok (.putfield 41, 3) := by decide +kernel
theorem d_Cs_start_82 : decode b_Cs_start 82 = .ok (.iconst 1, 1) := by decide +kernel
theorem d_Cs_start_83 : decode b_Cs_start 83 = .ok (.ireturn, 1) := by decide +kernel
theorem q_Cs_start : aw_q1 y_Cs_start b_Cs_start 3 (some .boolean) 1 := ⟨k_584, k_75, ⟨by decide, by decide, by decide +kernel⟩, by decide⟩
def y_Cs_nextArgument : MethodName := ⟨"RescanDesk$Calls", "nextArgument", "(LRescanDesk$Call;)Z"⟩
abbrev b_Cs_nextArgument : ByteArray := prog_5_method_7_code
theorem d_Cs_nextArgument_0 : decode b_Cs_nextArgument 0 = .ok (.aload_n 1, 1) := by decide +kernel
theorem d_Cs_nextArgument_1 : decode b_Cs_nextArgument 1 = .ok (.getfield 68, 3) := by decide +kernel
theorem d_Cs_nextArgument_4 : decode b_Cs_nextArgument 4 = .ok (.bipush 9, 2) := by decide +kernel
theorem d_Cs_nextArgument_6 : decode b_Cs_nextArgument 6 = .ok (.if_icmp .lt 5, 3) := by decide +kernel
theorem d_Cs_nextArgument_9 : decode b_Cs_nextArgument 9 = .ok (.iconst 0, 1) := by decide +kernel
theorem d_Cs_nextArgument_10 : decode b_Cs_nextArgument 10 = .ok (.ireturn, 1) := by decide +kernel
theorem d_Cs_nextArgument_11 : decode b_Cs_nextArgument 11 = .ok (.aload_n 1, 1) := by decide +kernel
theorem d_Cs_nextArgument_12 : decode b_Cs_nextArgument 12 = .ok (.getfield 61, 3) := by decide +kernel
theorem d_Cs_nextArgument_15 : decode b_Cs_nextArgument 15 = .ok (.aload_n 1, 1) := by decide +kernel
theorem d_Cs_nextArgument_16 : decode b_Cs_nextArgument 16 = .ok (.getfield 68, 3) := by decide +kernel
theorem d_Cs_nextArgument_19 : decode b_Cs_nextArgument 19 = .ok (.aload_n 0, 1) := by decide +kernel
theorem d_Cs_nextArgument_20 : decode b_Cs_nextArgument 20 = .ok (.getfield 14, 3) := by decide +kernel
theorem d_Cs_nextArgument_23 : decode b_Cs_nextArgument 23 = .ok (.getfield 65, 3) := by decide +kernel
theorem d_Cs_nextArgument_26 : decode b_Cs_nextArgument 26 = .ok (.iastore, 1) := by decide +kernel
theorem d_Cs_nextArgument_27 : decode b_Cs_nextArgument 27 = .ok (.aload_n 1, 1) := by decide +kernel
theorem d_Cs_nextArgument_28 : decode b_Cs_nextArgument 28 = .ok (.dup, 1) := by decide +kernel
theorem d_Cs_nextArgument_29 : decode b_Cs_nextArgument 29 = .ok (.getfield 68, 3) := by decide +kernel
theorem d_Cs_nextArgument_32 : decode b_Cs_nextArgument 32 = .ok (.iconst 1, 1) := by decide +kernel
theorem d_Cs_nextArgument_33 : decode b_Cs_nextArgument 33 = .ok (.iadd, 1) := by decide +kernel
theorem d_Cs_nextArgument_34 : decode b_Cs_nextArgument 34 = .ok (.putfield 68, 3) := by decide +kernel
theorem d_Cs_nextArgument_37 : decode b_Cs_nextArgument 37 = .ok (.aload_n 1, 1) := by decide +kernel
theorem d_Cs_nextArgument_38 : decode b_Cs_nextArgument 38 = .ok (.iconst 0, 1) := by decide +kernel
theorem d_Cs_nextArgument_39 : decode b_Cs_nextArgument 39 = .ok (.putfield 47, 3) := by decide +kernel
theorem d_Cs_nextArgument_42 : decode b_Cs_nextArgument 42 = .ok (.iconst 1, 1) := by decide +kernel
theorem d_Cs_nextArgument_43 : decode b_Cs_nextArgument 43 = .ok (.ireturn, 1) := by decide +kernel
theorem q_Cs_nextArgument : aw_q1 y_Cs_nextArgument b_Cs_nextArgument 2 (some .boolean) 1 := ⟨k_604, k_75, ⟨by decide, by decide, by decide +kernel⟩, by decide⟩
def y_Cs_close : MethodName := ⟨"RescanDesk$Calls", "close", "()LRescanDesk$Call;"⟩
abbrev b_Cs_close : ByteArray := prog_5_method_8_code
theorem d_Cs_close_0 : decode b_Cs_close 0 = .ok (.aload_n 0, 1) := by decide +kernel
theorem d_Cs_close_1 : decode b_Cs_close 1 = .ok (.invokevirtual 80, 3) := by decide +kernel
theorem d_Cs_close_4 : decode b_Cs_close 4 = .ok (.astore_n 1, 1) := by decide +kernel
theorem d_Cs_close_5 : decode b_Cs_close 5 = .ok (.aload_n 1, 1) := by decide +kernel
theorem d_Cs_close_6 : decode b_Cs_close 6 = .ok (.ifnull 42, 3) := by decide +kernel
theorem d_Cs_close_9 : decode b_Cs_close 9 = .ok (.aload_n 1, 1) := by decide +kernel
theorem d_Cs_close_10 : decode b_Cs_close 10 = .ok (.getfield 61, 3) := by decide +kernel
theorem d_Cs_close_13 : decode b_Cs_close 13 = .ok (.aload_n 1, 1) := by decide +kernel
theorem d_Cs_close_14 : decode b_Cs_close 14 = .ok (.getfield 68, 3) := by decide +kernel
theorem d_Cs_close_17 : decode b_Cs_close 17 = .ok (.aload_n 0, 1) := by decide +kernel
theorem d_Cs_close_18 : decode b_Cs_close 18 = .ok (.getfield 14, 3) := by decide +kernel
theorem d_Cs_close_21 : decode b_Cs_close 21 = .ok (.getfield 65, 3) := by decide +kernel
theorem d_Cs_close_24 : decode b_Cs_close 24 = .ok (.iastore, 1) := by decide +kernel
theorem d_Cs_close_25 : decode b_Cs_close 25 = .ok (.aload_n 0, 1) := by decide +kernel
theorem d_Cs_close_26 : decode b_Cs_close 26 = .ok (.getfield 14, 3) := by decide +kernel
theorem d_Cs_close_29 : decode b_Cs_close 29 = .ok (.aload_n 1, 1) := by decide +kernel
theorem d_Cs_close_30 : decode b_Cs_close 30 = .ok (.getfield 61, 3) := by decide +kernel
theorem d_Cs_close_33 : decode b_Cs_close 33 = .ok (.iconst 0, 1) := by decide +kernel
theorem d_Cs_close_34 : decode b_Cs_close 34 = .ok (.iaload, 1) := by decide +kernel
theorem d_Cs_close_35 : decode b_Cs_close 35 = .ok (.putfield 65, 3) := by decide +kernel
theorem d_Cs_close_38 : decode b_Cs_close 38 = .ok (.aload_n 0, 1) := by decide +kernel
theorem d_Cs_close_39 : decode b_Cs_close 39 = .ok (.dup, 1) := by decide +kernel
theorem d_Cs_close_40 : decode b_Cs_close 40 = .ok (.getfield 37, 3) := by decide +kernel
theorem d_Cs_close_43 : decode b_Cs_close 43 = .ok (.iconst 1, 1) := by decide +kernel
theorem d_Cs_close_44 : decode b_Cs_close 44 = .ok (.isub, 1) := by decide +kernel
theorem d_Cs_close_45 : decode b_Cs_close 45 = .ok (.putfield 37, 3) := by decide +kernel
theorem d_Cs_close_48 : decode b_Cs_close 48 = .ok (.aload_n 1, 1) := by decide +kernel
theorem d_Cs_close_49 : decode b_Cs_close 49 = .ok (.areturn, 1) := by decide +kernel
theorem q_Cs_close : aw_q1 y_Cs_close b_Cs_close 2 (some (.object "RescanDesk$Call")) 0 := ⟨k_599, k_75, ⟨by decide, by decide, by decide +kernel⟩, by decide⟩
/-- an open call: its definition, where its arguments begin, its depth, whether its argument has begun -/
abbrev CS : Type := Def × List Nat × Nat × Bool
/-- the starts rise, from call to call, up to the length of what is gathered; the latest call is first -/
def okC : List CS → Nat → Prop
  | [], _ => True
  | u :: r, n => (∃ x y, u.2.1 = x :: y ∧ okC r x) ∧ u.2.1.length ≤ 9 ∧ u.2.1.Pairwise (· ≤ ·) ∧ ∀ x ∈ u.2.1, x ≤ n
theorem okC.mono {C : List CS} {n m : Nat} (h : okC C n) (hnm : n ≤ m) : okC C m := by
  cases C with
  | nil => trivial
  | cons u r => exact ⟨h.1, h.2.1, h.2.2.1, fun x hx => Nat.le_trans (h.2.2.2 x hx) hnm⟩
def hCs (G : aw_G) (w : Nat → va_E) (ga : List Nat) (C : List CS) (mo : Nat) : Prop :=
  C.length ≤ 12 ∧ w 317 = aObj 6 [rf G 318, rf G 320, rf G 405, .int (nI C.length), .int (nI mo)] ∧ hTx G w 318 400 ga ∧ (∃ f, w 320 = aRefs (G.2.2.2.1 6) 12 f ∧ ∀ i, i < 12 → f i = some (G.2.2.1 + (321 + 7 * i))) ∧ (∀ i, i < 12 → ∃ t st n dp bg, hCa G w (321 + 7 * i) t st n dp bg ∧ n ≤ 9 ∧ dp ≤ 10000 ∧ t.2.1 ≤ 16 ∧ ∀ u : CS, C.reverse[i]? = some u → u = (t, sl st 0 n, dp, bg)) ∧ (∃ t dp bg, hCa G w 405 t (fun _ => 0) 0 dp bg ∧ t.2.1 ≤ 16) ∧ okC C ga.length ∧ mo ≤ 12
theorem hCa.keep {G : aw_G} {w w' : Nat → va_E} {a n dp : Nat} {t : Def} {st : Nat → Nat} {bg : Bool} {lo hi : Nat} (h : hCa G w a t st n dp bg) (hf : fr lo hi w w') (h1 : a + 7 ≤ lo ∨ hi ≤ a) : hCa G w' a t st n dp bg := ⟨(hf _ (by omega)).trans h.1, h.2.1.keep hf (by omega), (hf _ (by omega)).trans h.2.2⟩
theorem hCs.keep {G : aw_G} {w w' : Nat → va_E} {ga : List Nat} {C : List CS} {mo : Nat} {lo hi : Nat} (h : hCs G w ga C mo) (hf : fr lo hi w w') (h1 : hi ≤ 317 ∨ 412 ≤ lo) : hCs G w' ga C mo := by
  obtain ⟨a1, a2, a3, ⟨f, a4, a5⟩, a6, ⟨t, dp, bg, a7, a8⟩, a9⟩ := h
  refine ⟨a1, (hf _ (by omega)).trans a2, a3.keep hf (by omega), ⟨f, (hf _ (by omega)).trans a4, a5⟩, fun i hi => ?_, ⟨t, dp, bg, a7.keep hf (by omega), a8⟩, a9⟩
  obtain ⟨t, st, n, dp, bg, b1, b2⟩ := a6 i hi
  exact ⟨t, st, n, dp, bg, b1.keep hf (by omega), b2⟩
/-- a call that is to be expanded: its definition and its arguments -/
def hRdy (G : aw_G) (w : Nat → va_E) (a : Nat) (t : Def) (ar : List (List Nat)) : Prop :=
  ∃ st gg dp bg, hCa G w a t st ar.length dp bg ∧ okSt st ar.length ∧ w 319 = aCh G 400 gg ∧ (∀ j, gg j < 65536) ∧ t.2.1 ≤ 16 ∧ ∀ i, argL gg st ar.length i = if 1 ≤ i ∧ i ≤ ar.length then ar.getD (i - 1) [] else []
/-- what is gathered, cut at the starts -/
def cut (ga : List Nat) : List Nat → List (List Nat)
  | [] => []
  | [x] => [ga.drop x]
  | x :: y :: r => (ga.drop x).take (y - x) :: cut ga (y :: r)
theorem cut_len (ga : List Nat) : ∀ l, (cut ga l).length = l.length
  | [] => rfl
  | [x] => rfl
  | x :: y :: r => by simp [cut, cut_len ga (y :: r)]
section
variable {G : aw_G} {nx d : Nat} {w : Nat → va_E}
theorem s_Cs_begin {ga : List Nat} {C : List CS} {mo : Nat} (hnx : 412 ≤ nx) (hd : 1 ≤ d) (h : hCs G w ga C mo) : AC G y_Cs_begin b_Cs_begin 1 none d false [rf G 317] nx w 0 0 (fun r w' nx' => nx' = nx ∧ r = none ∧ hCs G w' [] [] 0 ∧ fr 317 412 w w') := by
  obtain ⟨a1, a2, a3, ⟨f, a4, a5⟩, a6, ⟨t, dp, bg, a7, a8⟩, a9, a10⟩ := h
  refine AC.ofW (by decide) (Nat.le_of_ble_eq_true rfl) ?_
  intro E P hP Y X
  have X : aw_X G "RescanDesk$Calls" b_Cs_begin 1 none "begin" _ _ _ _ _ E := X
  refine AW.eql (lv' := [(0, _)]) (by rfl) ?_
  refine aw_aload_nR (pc := 0) X d_Cs_begin_0 (by rfl) ?_
  refine aw_getO (pc := 1) X _ 0 (by omega) (by (repeat (first | rw [aw_up_eq] | rw [aw_up_ne _ _ (by first | assumption | omega)])) <;> first | assumption | rfl) (by rfl) in_Cs (by decide) k_308 (by rfl) d_Cs_begin_1 ?_
  -- invokevirtual 4 lv=0:r st=r
  refine aw_callV (pc := 4) X _ (s_Tx_empty (d := 0) (by omega) a3) q_Tx_empty k_521 k_196 k_197 (by omega) a3.obj (by rfl) d_Cs_begin_4 (by omega) (Nat.le_of_ble_eq_true rfl) ⟨by omega, by omega⟩ (fun h => by cases h) (fun r w2 nx2 hp => ?_)
  obtain ⟨rfl, rfl, ht, hf⟩ := hp
  have a22 : w2 317 = aObj 6 [rf G 318, rf G 320, rf G 405, .int (nI C.length), .int (nI mo)] := (hf _ (by omega)).trans a2
  refine aw_aload_nR (pc := 7) X d_Cs_begin_7 (by rfl) ?_
  refine aw_iconstN (pc := 8) X 0 d_Cs_begin_8 (by decide) ?_
  refine aw_putO (pc := 9) X _ 3 (by omega) (by (repeat (first | rw [aw_up_eq] | rw [aw_up_ne _ _ (by first | assumption | omega)])) <;> first | assumption | rfl) (by rfl) in_Cs (by decide) ty_Cs ok_Cs nm_Cs k_312 (by rfl) (by rfl) (by rfl) (by simp) (fs' := [_, _, _, _, _]) (by rfl) d_Cs_begin_9 ?_
  refine aw_aload_nR (pc := 12) X d_Cs_begin_12 (by rfl) ?_
  refine aw_iconstN (pc := 13) X 0 d_Cs_begin_13 (by decide) ?_
  refine aw_putO (pc := 14) X _ 4 (by omega) (by (repeat (first | rw [aw_up_eq] | rw [aw_up_ne _ _ (by first | assumption | omega)])) <;> first | assumption | rfl) (by rfl) in_Cs (by decide) ty_Cs ok_Cs nm_Cs k_314 (by rfl) (by rfl) (by rfl) (by simp) (fs' := [_, _, _, _, _]) (by rfl) d_Cs_begin_14 ?_
  refine aw_vret Y X rfl d_Cs_begin_17 (by omega) (by omega) (hP _ _ _ ?_)
  -- ret 17 lv=0:r st=
  rw [aw_up_up]
  generalize hw3 : aw_up w2 317 _ = w3
  have f3 : fr 317 318 w2 w3 := by rw [← hw3]; exact (fr.refl _ _ _).up _ (by omega)
  refine ⟨rfl, rfl, ⟨by simp, by rw [← hw3]; exact aw_up_eq _ _ _, ht.keep f3 (by omega), ⟨f, ((f3 _ (by omega)).trans (hf _ (by omega))).trans a4, a5⟩, fun i hi => ?_, ⟨t, dp, bg, (a7.keep hf (by omega)).keep f3 (by omega), a8⟩, trivial, by omega⟩, (hf.mono (by omega) (by omega)).trans (f3.mono (by omega) (by omega))⟩
  obtain ⟨t, st, n, dp, bg, b1, b2, b3, b4, b5⟩ := a6 i hi
  exact ⟨t, st, n, dp, bg, (b1.keep hf (by omega)).keep f3 (by omega), b2, b3, b4, fun u hu => by simp at hu⟩
theorem s_Cs_latest {ga : List Nat} {C : List CS} {mo : Nat} (hnx : 412 ≤ nx) (h : hCs G w ga C mo) : AC G y_Cs_latest b_Cs_latest 1 (some (.object "RescanDesk$Call")) d false [rf G 317] nx w 0 0 (fun r w' nx' => nx' = nx ∧ w' = w ∧ r = some (match C with | [] => .null | _ :: c => rf G (321 + 7 * c.length))) := by
  obtain ⟨a1, a2, a3, ⟨f, a4, a5⟩, a6, -⟩ := h
  refine AC.ofW (by decide) (Nat.le_of_ble_eq_true rfl) ?_
  intro E P hP Y X
  have X : aw_X G "RescanDesk$Calls" b_Cs_latest 1 (some (.object "RescanDesk$Call")) "latest" _ _ _ _ _ E := X
  refine AW.eql (lv' := [(0, _)]) (by rfl) ?_
  cases C with
  | nil =>
    have a2' : w 317 = aObj 6 [rf G 318, rf G 320, rf G 405, .int (nI 0), .int (nI mo)] := a2
    refine aw_aload_nR (pc := 0) X d_Cs_latest_0 (by rfl) ?_
    refine aw_getO (pc := 1) X _ 3 (by omega) (by (repeat (first | rw [aw_up_eq] | rw [aw_up_ne _ _ (by first | assumption | omega)])) <;> first | assumption | rfl) (by rfl) in_Cs (by decide) k_312 (by rfl) d_Cs_latest_1 ?_
    refine aw_if_leN (pc := 4) X (tgt := 21) d_Cs_latest_4 (by rfl) (by omega) (fun h4 => ?_) (fun h4 => ?_)
    -- br 4 lv=0:r st=
    · refine aw_null (pc := 21) X d_Cs_latest_21 ?_
      refine aw_aret Y X rfl (Or.inl rfl) d_Cs_latest_22 (by omega) (by omega) (hP _ _ _ ?_)
      -- ret 22 lv=0:r st=0
      exact ⟨rfl, rfl, rfl⟩
    · omega
  | cons u c =>
    have a2' : w 317 = aObj 6 [rf G 318, rf G 320, rf G 405, .int (nI (c.length + 1)), .int (nI mo)] := a2
    have hc : c.length < 12 := a1
    have a5c := a5 c.length hc
    refine aw_aload_nR (pc := 0) X d_Cs_latest_0 (by rfl) ?_
    refine aw_getO (pc := 1) X _ 3 (by omega) (by (repeat (first | rw [aw_up_eq] | rw [aw_up_ne _ _ (by first | assumption | omega)])) <;> first | assumption | rfl) (by rfl) in_Cs (by decide) k_312 (by rfl) d_Cs_latest_1 ?_
    refine aw_if_leN (pc := 4) X (tgt := 21) d_Cs_latest_4 (by rfl) (by omega) (fun h4 => ?_) (fun h4 => ?_)
    -- br 4 lv=0:r st=
    · omega
    · refine aw_aload_nR (pc := 7) X d_Cs_latest_7 (by rfl) ?_
      refine aw_getO (pc := 8) X _ 1 (by omega) (by (repeat (first | rw [aw_up_eq] | rw [aw_up_ne _ _ (by first | assumption | omega)])) <;> first | assumption | rfl) (by rfl) in_Cs (by decide) k_310 (by rfl) d_Cs_latest_8 ?_
      refine aw_aload_nR (pc := 11) X d_Cs_latest_11 (by rfl) ?_
      refine aw_getO (pc := 12) X _ 3 (by omega) (by (repeat (first | rw [aw_up_eq] | rw [aw_up_ne _ _ (by first | assumption | omega)])) <;> first | assumption | rfl) (by rfl) in_Cs (by decide) k_312 (by rfl) d_Cs_latest_12 ?_
      refine aw_iconstN (pc := 15) X 1 d_Cs_latest_15 (by decide) ?_
      refine aw_isubN (pc := 16) X d_Cs_latest_16 (by omega) ?_
      -- stop 17 lv=0:r st=n,r
      refine AW.of rfl rfl rfl rfl rfl (rest' := [.int (nI c.length), rf G 320]) rfl ?_
      refine aw_aaldN (pc := 17) X _ 6 (by omega) (by (repeat (first | rw [aw_up_eq] | rw [aw_up_ne _ _ (by first | assumption | omega)])) <;> first | assumption | rfl) (by rfl) (by omega) (by omega) (by assumption) d_Cs_latest_17 ?_
      refine aw_goto (pc := 18) X (tgt := 22) d_Cs_latest_18 (by rfl) ?_
      refine aw_aret Y X rfl (Or.inr ⟨_, rfl⟩) d_Cs_latest_22 (by omega) (by omega) (hP _ _ _ ?_)
      -- ret 22 lv=0:r st=r
      exact ⟨rfl, rfl, rfl⟩
/-- the latest call is another now -/
def updH (C : List CS) (F : CS → CS) : List CS := match C with
  | [] => []
  | u :: c => F u :: c
theorem rev_last {α : Type} (u : α) (c : List α) : (u :: c).reverse[c.length]? = some u := by simp
theorem rev_ne {α : Type} (u v : α) (c : List α) {i : Nat} (h : i ≠ c.length) : (u :: c).reverse[i]? = (v :: c).reverse[i]? := by
  simp only [List.reverse_cons]
  by_cases q : i < c.length
  · rw [List.getElem?_append_left (by simpa using q), List.getElem?_append_left (by simpa using q)]
  · rw [List.getElem?_append_right (by simp; omega), List.getElem?_append_right (by simp; omega)]
    have : i - c.reverse.length = (i - c.length - 1) + 1 := by simp; omega
    rw [this]
    simp
theorem hCs.top {G : aw_G} {w : Nat → va_E} {ga : List Nat} {u : CS} {c : List CS} {mo : Nat} (h : hCs G w ga (u :: c) mo) : c.length < 12 ∧ ∃ st, hCa G w (321 + 7 * c.length) u.1 st u.2.1.length u.2.2.1 u.2.2.2 ∧ u.2.1 = sl st 0 u.2.1.length ∧ u.2.2.1 ≤ 10000 ∧ u.1.2.1 ≤ 16 := by
  have hc : c.length < 12 := h.1
  refine ⟨hc, ?_⟩
  obtain ⟨t, st, n, dp, bg, b1, b2, b3, b4, b5⟩ := h.2.2.2.2.1 c.length hc
  have := b5 u (rev_last u c)
  subst this
  exact ⟨st, by rw [show (t, sl st 0 n, dp, bg).2.1.length = n from sl_len _ _ _]; exact b1, by rw [show (t, sl st 0 n, dp, bg).2.1.length = n from sl_len _ _ _], b3, b4⟩
/-- the latest call's cells have changed, and what is gathered -/
theorem hCs.upd {G : aw_G} {w w' : Nat → va_E} {ga ga' : List Nat} {u v : CS} {c : List CS} {mo : Nat} {st : Nat → Nat} (h : hCs G w ga (u :: c) mo) (hs : hTx G w' 318 400 ga') (hc : hCa G w' (321 + 7 * c.length) v.1 st v.2.1.length v.2.2.1 v.2.2.2) (hv : v.2.1 = sl st 0 v.2.1.length) (hd : v.2.2.1 ≤ 10000) (hk : v.1.2.1 ≤ 16) (ho : okC (v :: c) ga'.length) (hf : ∀ x, x < 318 ∨ (320 ≤ x ∧ x < 321 + 7 * c.length) ∨ 321 + 7 * c.length + 7 ≤ x → w' x = w x) : hCs G w' ga' (v :: c) mo := by
  have hc12 := h.top.1
  obtain ⟨a1, a2, a3, ⟨f, a4, a5⟩, a6, ⟨t, dp, bg, a7, a8⟩, a9, a10⟩ := h
  have kk : ∀ (a n dp : Nat) (t : Def) (st : Nat → Nat) (bg : Bool), hCa G w a t st n dp bg → 321 ≤ a → (a + 7 ≤ 321 + 7 * c.length ∨ 321 + 7 * c.length + 7 ≤ a) → hCa G w' a t st n dp bg := fun a n dp t st bg q q1 q2 =>
    ⟨(hf _ (by omega)).trans q.1, ⟨(hf _ (by omega)).trans q.2.1.1, q.2.1.2.1.kept (hf _ (by omega)) (hf _ (by omega)), q.2.1.2.2.kept (hf _ (by omega)) (hf _ (by omega))⟩, (hf _ (by omega)).trans q.2.2⟩
  refine ⟨a1, (hf _ (by omega)).trans a2, hs, ⟨f, (hf _ (by omega)).trans a4, a5⟩, fun i hi => ?_, ⟨t, dp, bg, kk _ _ _ _ _ _ a7 (by omega) (by omega), a8⟩, ho, a10⟩
  by_cases e : i = c.length
  · subst e
    refine ⟨v.1, st, v.2.1.length, v.2.2.1, v.2.2.2, hc, ho.2.1, hd, hk, fun x hx => ?_⟩
    rw [rev_last] at hx
    cases hx
    exact Prod.ext rfl (Prod.ext hv rfl)
  · obtain ⟨t, st1, n, dp, bg, b1, b2, b3, b4, b5⟩ := a6 i hi
    exact ⟨t, st1, n, dp, bg, kk _ _ _ _ _ _ b1 (by omega) (by omega), b2, b3, b4, fun x hx => b5 x (by rw [rev_ne u v c e]; exact hx)⟩
theorem s_Cs_markBegun {ga : List Nat} {C : List CS} {mo : Nat} (hnx : 412 ≤ nx) (h : hCs G w ga C mo) : AC G y_Cs_markBegun b_Cs_markBegun 1 none d false [rf G 317] nx w 0 0 (fun r w' nx' => nx' = nx ∧ r = none ∧ hCs G w' ga (updH C (fun u => (u.1, u.2.1, u.2.2.1, true))) mo ∧ fr 317 412 w w') := by
  have h0 := h
  obtain ⟨a1, a2, a3, ⟨f, a4, a5⟩, a6, -⟩ := h
  refine AC.ofW (by decide) (Nat.le_of_ble_eq_true rfl) ?_
  intro E P hP Y X
  have X : aw_X G "RescanDesk$Calls" b_Cs_markBegun 1 none "markBegun" _ _ _ _ _ E := X
  refine AW.eql (lv' := [(0, _)]) (by rfl) ?_
  cases C with
  | nil =>
    have a2' : w 317 = aObj 6 [rf G 318, rf G 320, rf G 405, .int (nI 0), .int (nI mo)] := a2
    refine aw_aload_nR (pc := 0) X d_Cs_markBegun_0 (by rfl) ?_
    refine aw_getO (pc := 1) X _ 3 (by omega) (by (repeat (first | rw [aw_up_eq] | rw [aw_up_ne _ _ (by first | assumption | omega)])) <;> first | assumption | rfl) (by rfl) in_Cs (by decide) k_312 (by rfl) d_Cs_markBegun_1 ?_
    refine aw_if_leN (pc := 4) X (tgt := 22) d_Cs_markBegun_4 (by rfl) (by omega) (fun h4 => ?_) (fun h4 => ?_)
    -- br 4 lv=0:r st=
    · refine aw_vret Y X rfl d_Cs_markBegun_22 (by omega) (by omega) (hP _ _ _ ?_)
      -- ret 22 lv=0:r st=
      exact ⟨rfl, rfl, h0, fr.refl _ _ _⟩
    · omega
  | cons u c =>
    have a2' : w 317 = aObj 6 [rf G 318, rf G 320, rf G 405, .int (nI (c.length + 1)), .int (nI mo)] := a2
    obtain ⟨hc, st, b1, b2, b3, b4⟩ := h0.top
    have b1' : w (321 + 7 * c.length) = aObj 7 [rf G (321 + 7 * c.length + 1), rf G 319, rf G (321 + 7 * c.length + 6), .int (nI u.2.1.length), .int (nI u.2.2.1), .int (nI (bN u.2.2.2))] := b1.1
    have a5c := a5 c.length hc
    have hok : okC (u :: c) ga.length := h0.2.2.2.2.2.2.1
    refine aw_aload_nR (pc := 0) X d_Cs_markBegun_0 (by rfl) ?_
    refine aw_getO (pc := 1) X _ 3 (by omega) (by (repeat (first | rw [aw_up_eq] | rw [aw_up_ne _ _ (by first | assumption | omega)])) <;> first | assumption | rfl) (by rfl) in_Cs (by decide) k_312 (by rfl) d_Cs_markBegun_1 ?_
    refine aw_if_leN (pc := 4) X (tgt := 22) d_Cs_markBegun_4 (by rfl) (by omega) (fun h4 => ?_) (fun h4 => ?_)
    -- br 4 lv=0:r st=
    · omega
    · refine aw_aload_nR (pc := 7) X d_Cs_markBegun_7 (by rfl) ?_
      refine aw_getO (pc := 8) X _ 1 (by omega) (by (repeat (first | rw [aw_up_eq] | rw [aw_up_ne _ _ (by first | assumption | omega)])) <;> first | assumption | rfl) (by rfl) in_Cs (by decide) k_310 (by rfl) d_Cs_markBegun_8 ?_
      refine aw_aload_nR (pc := 11) X d_Cs_markBegun_11 (by rfl) ?_
      refine aw_getO (pc := 12) X _ 3 (by omega) (by (repeat (first | rw [aw_up_eq] | rw [aw_up_ne _ _ (by first | assumption | omega)])) <;> first | assumption | rfl) (by rfl) in_Cs (by decide) k_312 (by rfl) d_Cs_markBegun_12 ?_
      refine aw_iconstN (pc := 15) X 1 d_Cs_markBegun_15 (by decide) ?_
      refine aw_isubN (pc := 16) X d_Cs_markBegun_16 (by omega) ?_
      -- stop 17 lv=0:r st=n,r
      refine AW.of rfl rfl rfl rfl rfl (rest' := [.int (nI c.length), rf G 320]) rfl ?_
      refine aw_aaldN (pc := 17) X _ 6 (by omega) (by (repeat (first | rw [aw_up_eq] | rw [aw_up_ne _ _ (by first | assumption | omega)])) <;> first | assumption | rfl) (by rfl) (by omega) (by omega) (by assumption) d_Cs_markBegun_17 ?_
      refine aw_iconstN (pc := 18) X 1 d_Cs_markBegun_18 (by decide) ?_
      refine aw_putNO (pc := 19) X _ 5 (by omega) (by (repeat (first | rw [aw_up_eq] | rw [aw_up_ne _ _ (by first | assumption | omega)])) <;> first | assumption | rfl) (by rfl) in_Ca (by decide) ty_Ca ok_Ca nm_Ca k_292 (by rfl) (by decide +kernel) (by decide +kernel) (by simp) (fs' := [_, _, _, _, _, _]) (by rfl) d_Cs_markBegun_19 ?_
      refine aw_vret Y X rfl d_Cs_markBegun_22 (by omega) (by omega) (hP _ _ _ ?_)
      -- ret 22 lv=0:r st=
      generalize hw3 : aw_up w (321 + 7 * c.length) _ = w3
      have f3 : fr (321 + 7 * c.length) (321 + 7 * c.length + 1) w w3 := by rw [← hw3]; exact (fr.refl _ _ _).up _ (by omega)
      refine ⟨rfl, rfl, h0.upd (v := (u.1, u.2.1, u.2.2.1, true)) (st := st) (a3.keep f3 (by omega)) ⟨by rw [← hw3]; exact aw_up_eq _ _ _, b1.2.1.keep f3 (by omega), (f3 _ (by omega)).trans b1.2.2⟩ b2 b3 b4 hok (fun x hx => f3 x (by omega)), f3.mono (by omega) (by omega)⟩
end
end
section
/-! Calls.bare, start, nextArgument, close -/
section
variable {G : aw_G} {nx d : Nat} {w : Nat → va_E}
theorem s_Cs_bare {ga : List Nat} {C : List CS} {mo c : Nat} {t : Def} (hnx : 412 ≤ nx) (hd : 4 ≤ d) (hc : c + 5 ≤ 317) (hk : t.2.1 ≤ 16) (h : hCs G w ga C mo) (ht : hDe G w c t) : AC G y_Cs_bare b_Cs_bare 2 (some (.object "RescanDesk$Call")) d false [rf G 317, rf G c] nx w 0 0 (fun r w' nx' => nx' = nx ∧ r = some (rf G 405) ∧ hCs G w' ga C mo ∧ hRdy G w' 405 t [] ∧ fr 317 412 w w') := by
  have h0 := h
  obtain ⟨a1, a2, a3, ⟨f, a4, a5⟩, a6, ⟨t0, dp, bg, a7, a8⟩, a9, a10⟩ := h
  have a7' : w 405 = aObj 7 [rf G 406, rf G 319, rf G 411, .int (nI 0), .int (nI dp), .int (nI (bN bg))] := a7.1
  have a71 : w 406 = aObj 5 [rf G 407, rf G 409, kV G t0.2.1] := a7.2.1.1
  refine AC.ofW (by decide) (Nat.le_of_ble_eq_true rfl) ?_
  intro E P hP Y X
  have X : aw_X G "RescanDesk$Calls" b_Cs_bare 2 (some (.object "RescanDesk$Call")) "bare" _ _ _ _ _ E := X
  refine AW.eql (lv' := [(0, _), (1, _)]) (by rfl) ?_
  refine aw_aload_nR (pc := 0) X d_Cs_bare_0 (by rfl) ?_
  refine aw_getO (pc := 1) X _ 2 (by omega) (by (repeat (first | rw [aw_up_eq] | rw [aw_up_ne _ _ (by first | assumption | omega)])) <;> first | assumption | rfl) (by rfl) in_Cs (by decide) k_311 (by rfl) d_Cs_bare_1 ?_
  refine aw_getNO (pc := 4) X _ 0 (by omega) (by (repeat (first | rw [aw_up_eq] | rw [aw_up_ne _ _ (by first | assumption | omega)])) <;> first | assumption | rfl) (by rfl) in_Ca (by decide) k_280 (by rfl) d_Cs_bare_4 ?_
  refine aw_aload_nR (pc := 7) X d_Cs_bare_7 (by rfl) ?_
  -- invokevirtual 8 lv=0:r,1:r st=r,r
  refine aw_callV (pc := 8) X _ (s_De_copy (d := 3) (a := 406) (c := c) (t := t0) (u := t) (by omega) (by omega) (by omega) (by omega) a7.2.1 ht) q_De_copy k_572 k_573 k_574 (by omega) a71 (by rfl) d_Cs_bare_8 (by omega) (Nat.le_of_ble_eq_true rfl) ⟨by omega, by omega⟩ (fun h => by cases h) (fun r w2 nx2 hp => ?_)
  obtain ⟨rfl, rfl, b1, hf⟩ := hp
  have a22 : w2 317 = aObj 6 [rf G 318, rf G 320, rf G 405, .int (nI C.length), .int (nI mo)] := (hf _ (by omega)).trans a2
  have b2 : hCa G w2 405 t (fun _ => 0) 0 dp bg := ⟨(hf _ (by omega)).trans a7.1, b1, (hf _ (by omega)).trans a7.2.2⟩
  have b3 : hTx G w2 318 400 ga := a3.keep hf (by omega)
  obtain ⟨gg, g1, g2, g3⟩ := b3.arr
  refine aw_aload_nR (pc := 11) X d_Cs_bare_11 (by rfl) ?_
  refine aw_getO (pc := 12) X _ 2 (by omega) (by (repeat (first | rw [aw_up_eq] | rw [aw_up_ne _ _ (by first | assumption | omega)])) <;> first | assumption | rfl) (by rfl) in_Cs (by decide) k_311 (by rfl) d_Cs_bare_12 ?_
  refine aw_aret Y X rfl (Or.inr ⟨_, rfl⟩) d_Cs_bare_15 (by omega) (by omega) (hP _ _ _ ?_)
  -- ret 15 lv=0:r,1:r st=r
  refine ⟨rfl, rfl, ⟨a1, a22, b3, ⟨f, (hf _ (by omega)).trans a4, a5⟩, fun i hi => ?_, ⟨t, dp, bg, b2, hk⟩, a9, a10⟩, ⟨fun _ => 0, gg, dp, bg, b2, ⟨by simp, fun _ _ _ _ => Nat.le_refl _, Nat.zero_le _⟩, g1, g3, hk, fun i => ?_⟩, hf.mono (by omega) (by omega)⟩
  · obtain ⟨t, st, n, dp, bg, c1, c2⟩ := a6 i hi
    exact ⟨t, st, n, dp, bg, c1.keep hf (by omega), c2⟩
  · simp [argL, frm, too, sl]
theorem s_Cs_start {ga : List Nat} {C : List CS} {mo c : Nat} {t : Def} (hnx : 412 ≤ nx) (hd : 4 ≤ d) (hc : c + 5 ≤ 317) (hk : t.2.1 ≤ 16) (h : hCs G w ga C mo) (ht : hDe G w c t) : AC G y_Cs_start b_Cs_start 3 (some .boolean) d false [rf G 317, rf G c] nx w 0 0 (fun r w' nx' => nx' = nx ∧ ((12 ≤ C.length ∧ r = some (.int (nI 0)) ∧ w' = w) ∨ (C.length < 12 ∧ r = some (.int (nI 1)) ∧ hCs G w' ga ((t, [ga.length], 0, false) :: C) (max mo (C.length + 1)) ∧ fr 317 412 w w'))) := by
  have h0 := h
  obtain ⟨a1, a2, a3, ⟨f, a4, a5⟩, a6, ⟨t0, dp, bg, a7, a8⟩, a9, a10⟩ := h
  refine AC.ofW (by decide) (Nat.le_of_ble_eq_true rfl) ?_
  intro E P hP Y X
  have X : aw_X G "RescanDesk$Calls" b_Cs_start 3 (some .boolean) "start" _ _ _ _ _ E := X
  refine AW.eql (lv' := [(0, _), (1, _)]) (by rfl) ?_
  refine aw_aload_nR (pc := 0) X d_Cs_start_0 (by rfl) ?_
  refine aw_getO (pc := 1) X _ 3 (by omega) (by (repeat (first | rw [aw_up_eq] | rw [aw_up_ne _ _ (by first | assumption | omega)])) <;> first | assumption | rfl) (by rfl) in_Cs (by decide) k_312 (by rfl) d_Cs_start_1 ?_
  refine aw_bipushN (pc := 4) X 12 d_Cs_start_4 (by decide) ?_
  refine aw_icmp_ltN (pc := 6) X (tgt := 11) d_Cs_start_6 (by rfl) (by omega) (by omega) (fun h6 => ?_) (fun h6 => ?_)
  -- br 6 lv=0:r,1:r st=
  · have a5c := a5 C.length h6
    obtain ⟨u, st, n, dq, bh, b1, b2, b3, b4, b5⟩ := a6 C.length h6
    have b1' : w (321 + 7 * C.length) = aObj 7 [rf G (321 + 7 * C.length + 1), rf G 319, rf G (321 + 7 * C.length + 6), .int (nI n), .int (nI dq), .int (nI (bN bh))] := b1.1
    have b11 : w (321 + 7 * C.length + 1) = aObj 5 [rf G (321 + 7 * C.length + 1 + 1), rf G (321 + 7 * C.length + 1 + 3), kV G u.2.1] := b1.2.1.1
    refine aw_aload_nR (pc := 11) X d_Cs_start_11 (by rfl) ?_
    refine aw_getO (pc := 12) X _ 1 (by omega) (by (repeat (first | rw [aw_up_eq] | rw [aw_up_ne _ _ (by first | assumption | omega)])) <;> first | assumption | rfl) (by rfl) in_Cs (by decide) k_310 (by rfl) d_Cs_start_12 ?_
    refine aw_aload_nR (pc := 15) X d_Cs_start_15 (by rfl) ?_
    refine aw_getO (pc := 16) X _ 3 (by omega) (by (repeat (first | rw [aw_up_eq] | rw [aw_up_ne _ _ (by first | assumption | omega)])) <;> first | assumption | rfl) (by rfl) in_Cs (by decide) k_312 (by rfl) d_Cs_start_16 ?_
    refine aw_aaldN (pc := 19) X _ 6 (by omega) (by (repeat (first | rw [aw_up_eq] | rw [aw_up_ne _ _ (by first | assumption | omega)])) <;> first | assumption | rfl) (by rfl) (by omega) (by omega) (by assumption) d_Cs_start_19 ?_
    refine aw_astore_nR (pc := 20) X (lv' := [(2, _), (0, _), (1, _)]) d_Cs_start_20 (by decide) (by rfl) ?_
    refine aw_aload_nR (pc := 21) X d_Cs_start_21 (by rfl) ?_
    refine aw_getNO (pc := 22) X _ 0 (by omega) (by (repeat (first | rw [aw_up_eq] | rw [aw_up_ne _ _ (by first | assumption | omega)])) <;> first | assumption | rfl) (by rfl) in_Ca (by decide) k_280 (by rfl) d_Cs_start_22 ?_
    refine aw_aload_nR (pc := 25) X d_Cs_start_25 (by rfl) ?_
    -- invokevirtual 26 lv=2:r,0:r,1:r st=r,r
    refine aw_callV (pc := 26) X _ (s_De_copy (d := 3) (a := 321 + 7 * C.length + 1) (c := c) (t := u) (u := t) (by omega) (by omega) (by omega) (by omega) b1.2.1 ht) q_De_copy k_572 k_573 k_574 (by omega) b11 (by rfl) d_Cs_start_26 (by omega) (Nat.le_of_ble_eq_true rfl) ⟨by omega, by omega⟩ (fun h => by cases h) (fun r w2 nx2 hp => ?_)
    obtain ⟨rfl, rfl, c1, hf⟩ := hp
    have c2 : w2 317 = aObj 6 [rf G 318, rf G 320, rf G 405, .int (nI C.length), .int (nI mo)] := (hf _ (by omega)).trans a2
    have c3 : w2 (321 + 7 * C.length) = aObj 7 [rf G (321 + 7 * C.length + 1), rf G 319, rf G (321 + 7 * C.length + 6), .int (nI n), .int (nI dq), .int (nI (bN bh))] := (hf _ (by omega)).trans b1.1
    have c4 : w2 (321 + 7 * C.length + 6) = aArr (G.2.2.2.1 1) 10 st := (hf _ (by omega)).trans b1.2.2
    have c5 : hTx G w2 318 400 ga := a3.keep hf (by omega)
    have c6 := c5.obj
    have c7 := c5.le
    refine aw_aload_nR (pc := 29) X d_Cs_start_29 (by rfl) ?_
    refine aw_getNO (pc := 30) X _ 2 (by omega) (by (repeat (first | rw [aw_up_eq] | rw [aw_up_ne _ _ (by first | assumption | omega)])) <;> first | assumption | rfl) (by rfl) in_Ca (by decide) k_284 (by rfl) d_Cs_start_30 ?_
    refine aw_iconstN (pc := 33) X 0 d_Cs_start_33 (by decide) ?_
    refine aw_aload_nR (pc := 34) X d_Cs_start_34 (by rfl) ?_
    refine aw_getO (pc := 35) X _ 0 (by omega) (by (repeat (first | rw [aw_up_eq] | rw [aw_up_ne _ _ (by first | assumption | omega)])) <;> first | assumption | rfl) (by rfl) in_Cs (by decide) k_308 (by rfl) d_Cs_start_35 ?_
    refine aw_getNO (pc := 38) X _ 1 (by omega) (by (repeat (first | rw [aw_up_eq] | rw [aw_up_ne _ _ (by first | assumption | omega)])) <;> first | assumption | rfl) (by rfl) in_Tx (by decide) k_119 (by rfl) d_Cs_start_38 ?_
    refine aw_iastN (pc := 41) X _ 1 (by omega) (by (repeat (first | rw [aw_up_eq] | rw [aw_up_ne _ _ (by first | assumption | omega)])) <;> first | assumption | rfl) (by rfl) (by omega) (by omega) d_Cs_start_41 ?_
    refine aw_aload_nR (pc := 42) X d_Cs_start_42 (by rfl) ?_
    refine aw_iconstN (pc := 43) X 1 d_Cs_start_43 (by decide) ?_
    refine aw_putNO (pc := 44) X _ 3 (by omega) (by (repeat (first | rw [aw_up_eq] | rw [aw_up_ne _ _ (by first | assumption | omega)])) <;> first | assumption | rfl) (by rfl) in_Ca (by decide) ty_Ca ok_Ca nm_Ca k_287 (by rfl) (by rfl) (by rfl) (by simp) (fs' := [_, _, _, _, _, _]) (by rfl) d_Cs_start_44 ?_
    refine aw_aload_nR (pc := 47) X d_Cs_start_47 (by rfl) ?_
    refine aw_iconstN (pc := 48) X 0 d_Cs_start_48 (by decide) ?_
    refine aw_putNO (pc := 49) X _ 4 (by omega) (by (repeat (first | rw [aw_up_eq] | rw [aw_up_ne _ _ (by first | assumption | omega)])) <;> first | assumption | rfl) (by rfl) in_Ca (by decide) ty_Ca ok_Ca nm_Ca k_289 (by rfl) (by rfl) (by rfl) (by simp) (fs' := [_, _, _, _, _, _]) (by rfl) d_Cs_start_49 ?_
    refine aw_aload_nR (pc := 52) X d_Cs_start_52 (by rfl) ?_
    refine aw_iconstN (pc := 53) X 0 d_Cs_start_53 (by decide) ?_
    refine aw_putNO (pc := 54) X _ 5 (by omega) (by (repeat (first | rw [aw_up_eq] | rw [aw_up_ne _ _ (by first | assumption | omega)])) <;> first | assumption | rfl) (by rfl) in_Ca (by decide) ty_Ca ok_Ca nm_Ca k_292 (by rfl) (by decide +kernel) (by decide +kernel) (by simp) (fs' := [_, _, _, _, _, _]) (by rfl) d_Cs_start_54 ?_
    refine aw_aload_nR (pc := 57) X d_Cs_start_57 (by rfl) ?_
    refine aw_dup (pc := 58) X d_Cs_start_58 (by rfl) ?_
    refine aw_getO (pc := 59) X _ 3 (by omega) (by (repeat (first | rw [aw_up_eq] | rw [aw_up_ne _ _ (by first | assumption | omega)])) <;> first | assumption | rfl) (by rfl) in_Cs (by decide) k_312 (by rfl) d_Cs_start_59 ?_
    refine aw_iconstN (pc := 62) X 1 d_Cs_start_62 (by decide) ?_
    refine aw_iaddN (pc := 63) X d_Cs_start_63 ?_
    refine aw_putO (pc := 64) X _ 3 (by omega) (by (repeat (first | rw [aw_up_eq] | rw [aw_up_ne _ _ (by first | assumption | omega)])) <;> first | assumption | rfl) (by rfl) in_Cs (by decide) ty_Cs ok_Cs nm_Cs k_312 (by rfl) (by rfl) (by rfl) (by simp) (fs' := [_, _, _, _, _]) (by rfl) d_Cs_start_64 ?_
    refine aw_aload_nR (pc := 67) X d_Cs_start_67 (by rfl) ?_
    refine aw_aload_nR (pc := 68) X d_Cs_start_68 (by rfl) ?_
    refine aw_getO (pc := 69) X _ 4 (by omega) (by (repeat (first | rw [aw_up_eq] | rw [aw_up_ne _ _ (by first | assumption | omega)])) <;> first | assumption | rfl) (by rfl) in_Cs (by decide) k_314 (by rfl) d_Cs_start_69 ?_
    refine aw_aload_nR (pc := 72) X d_Cs_start_72 (by rfl) ?_
    refine aw_getO (pc := 73) X _ 3 (by omega) (by (repeat (first | rw [aw_up_eq] | rw [aw_up_ne _ _ (by first | assumption | omega)])) <;> first | assumption | rfl) (by rfl) in_Cs (by decide) k_312 (by rfl) d_Cs_start_73 ?_
    refine aw_mmaxN (pc := 76) X (by omega) (by omega) k_585 k_586 k_85 k_587 (by omega) (Nat.le_trans (m := 24) (Nat.le_of_ble_eq_true rfl) (by omega)) (by omega) (by omega) d_Cs_start_76 ?_
    refine aw_putO (pc := 79) X _ 4 (by omega) (by (repeat (first | rw [aw_up_eq] | rw [aw_up_ne _ _ (by first | assumption | omega)])) <;> first | assumption | rfl) (by rfl) in_Cs (by decide) ty_Cs ok_Cs nm_Cs k_314 (by rfl) (by rfl) (by rfl) (by simp) (fs' := [_, _, _, _, _]) (by rfl) d_Cs_start_79 ?_
    refine aw_iconstN (pc := 82) X 1 d_Cs_start_82 (by decide) ?_
    refine aw_zret Y X rfl (by decide +kernel) d_Cs_start_83 (by omega) (by omega) (hP _ _ _ ?_)
    -- ret 83 lv=2:r,0:r,1:r st=n
    refine ⟨rfl, Or.inr ⟨h6, rfl, ?_, ?_⟩⟩
    · simp only [aw_up_up]
      generalize hw3 : aw_up (aw_up (aw_up w2 (321 + 7 * C.length + 6) _) (321 + 7 * C.length) _) 317 _ = w3
      have e1 : w3 317 = aObj 6 [rf G 318, rf G 320, rf G 405, .int (nI (C.length + 1)), .int (nI (max mo (C.length + 1)))] := by rw [← hw3]; exact aw_up_eq _ _ _
      have e2 : w3 (321 + 7 * C.length) = oCa G (321 + 7 * C.length) 1 0 false := by rw [← hw3, aw_up_ne _ _ (by omega)]; exact aw_up_eq _ _ _
      have e3 : w3 (321 + 7 * C.length + 6) = aArr (G.2.2.2.1 1) 10 (aw_un st 0 ga.length) := by rw [← hw3, aw_up_ne _ _ (by omega), aw_up_ne _ _ (by omega)]; exact aw_up_eq _ _ _
      have e4 : ∀ x, x ≠ 317 → x ≠ 321 + 7 * C.length → x ≠ 321 + 7 * C.length + 6 → w3 x = w2 x := fun x q1 q2 q3 => by rw [← hw3, aw_up_ne _ _ q1, aw_up_ne _ _ q2, aw_up_ne _ _ q3]
      have kk : ∀ (a n dp : Nat) (t : Def) (st : Nat → Nat) (bg : Bool), hCa G w2 a t st n dp bg → 321 ≤ a → (a + 7 ≤ 321 + 7 * C.length ∨ 321 + 7 * C.length + 7 ≤ a) → hCa G w3 a t st n dp bg := fun a n dp t st bg q q1 q2 =>
        ⟨(e4 _ (by omega) (by omega) (by omega)).trans q.1, ⟨(e4 _ (by omega) (by omega) (by omega)).trans q.2.1.1, q.2.1.2.1.kept (e4 _ (by omega) (by omega) (by omega)) (e4 _ (by omega) (by omega) (by omega)), q.2.1.2.2.kept (e4 _ (by omega) (by omega) (by omega)) (e4 _ (by omega) (by omega) (by omega))⟩, (e4 _ (by omega) (by omega) (by omega)).trans q.2.2⟩
      refine ⟨by simp; omega, e1, c5.kept (e4 _ (by omega) (by omega) (by omega)) (e4 _ (by omega) (by omega) (by omega)), ⟨f, (e4 _ (by omega) (by omega) (by omega)).trans ((hf _ (by omega)).trans a4), a5⟩, fun i hi => ?_, ⟨t0, dp, bg, kk _ _ _ _ _ _ (a7.keep hf (by omega)) (by omega) (by omega), a8⟩, ⟨⟨ga.length, [], rfl, a9⟩, by simp, by simp, by simp⟩, by omega⟩
      by_cases e : i = C.length
      · subst e
        refine ⟨t, aw_un st 0 ga.length, 1, 0, false, ⟨e2, ⟨(e4 _ (by omega) (by omega) (by omega)).trans c1.1, c1.2.1.kept (e4 _ (by omega) (by omega) (by omega)) (e4 _ (by omega) (by omega) (by omega)), c1.2.2.kept (e4 _ (by omega) (by omega) (by omega)) (e4 _ (by omega) (by omega) (by omega))⟩, e3⟩, by omega, by omega, hk, fun x hx => ?_⟩
        rw [rev_last] at hx
        cases hx
        rfl
      · obtain ⟨t1, st1, n1, dp1, bg1, x1, x2, x3, x4, x5⟩ := a6 i hi
        refine ⟨t1, st1, n1, dp1, bg1, kk _ _ _ _ _ _ (x1.keep hf (by omega)) (by omega) (by omega), x2, x3, x4, fun x hx => x5 x ?_⟩
        simp only [List.reverse_cons] at hx
        by_cases q : i < C.length
        · rwa [List.getElem?_append_left (by simpa using q)] at hx
        · rw [List.getElem?_eq_none_iff.mpr (by simp; omega)] at hx
          cases hx
    · exact ((((((((hf.mono (by omega) (by omega)).up _ (by omega)).up _ (by omega)).up _ (by omega)).up _ (by omega)).up _ (by omega)).up _ (by omega)))
  · refine aw_iconstN (pc := 9) X 0 d_Cs_start_9 (by decide) ?_
    refine aw_zret Y X rfl (by decide +kernel) d_Cs_start_10 (by omega) (by omega) (hP _ _ _ ?_)
    -- ret 10 lv=0:r,1:r st=n
    exact ⟨rfl, Or.inl ⟨h6, rfl, rfl⟩⟩
theorem s_Cs_nextArgument {ga : List Nat} {u : CS} {c : List CS} {mo : Nat} (hnx : 412 ≤ nx) (h : hCs G w ga (u :: c) mo) : AC G y_Cs_nextArgument b_Cs_nextArgument 2 (some .boolean) d false [rf G 317, rf G (321 + 7 * c.length)] nx w 0 0 (fun r w' nx' => nx' = nx ∧ ((9 ≤ u.2.1.length ∧ r = some (.int (nI 0)) ∧ w' = w) ∨ (u.2.1.length < 9 ∧ r = some (.int (nI 1)) ∧ hCs G w' ga ((u.1, u.2.1 ++ [ga.length], u.2.2.1, false) :: c) mo ∧ fr 317 412 w w'))) := by
  have h0 := h
  obtain ⟨hc, st, b1, b2, b3, b4⟩ := h0.top
  obtain ⟨a1, a2, a3, -⟩ := h
  have hok : okC (u :: c) ga.length := h0.2.2.2.2.2.2.1
  have b1' : w (321 + 7 * c.length) = aObj 7 [rf G (321 + 7 * c.length + 1), rf G 319, rf G (321 + 7 * c.length + 6), .int (nI u.2.1.length), .int (nI u.2.2.1), .int (nI (bN u.2.2.2))] := b1.1
  have b16 := b1.2.2
  have a3o := a3.obj
  have hl9 := hok.2.1
  refine AC.ofW (by decide) (Nat.le_of_ble_eq_true rfl) ?_
  intro E P hP Y X
  have X : aw_X G "RescanDesk$Calls" b_Cs_nextArgument 2 (some .boolean) "nextArgument" _ _ _ _ _ E := X
  refine AW.eql (lv' := [(0, _), (1, _)]) (by rfl) ?_
  refine aw_aload_nR (pc := 0) X d_Cs_nextArgument_0 (by rfl) ?_
  refine aw_getNO (pc := 1) X _ 3 (by omega) (by (repeat (first | rw [aw_up_eq] | rw [aw_up_ne _ _ (by first | assumption | omega)])) <;> first | assumption | rfl) (by rfl) in_Ca (by decide) k_287 (by rfl) d_Cs_nextArgument_1 ?_
  refine aw_bipushN (pc := 4) X 9 d_Cs_nextArgument_4 (by decide) ?_
  refine aw_icmp_ltN (pc := 6) X (tgt := 11) d_Cs_nextArgument_6 (by rfl) (by omega) (by omega) (fun h6 => ?_) (fun h6 => ?_)
  -- br 6 lv=0:r,1:r st=
  · refine aw_aload_nR (pc := 11) X d_Cs_nextArgument_11 (by rfl) ?_
    refine aw_getNO (pc := 12) X _ 2 (by omega) (by (repeat (first | rw [aw_up_eq] | rw [aw_up_ne _ _ (by first | assumption | omega)])) <;> first | assumption | rfl) (by rfl) in_Ca (by decide) k_284 (by rfl) d_Cs_nextArgument_12 ?_
    refine aw_aload_nR (pc := 15) X d_Cs_nextArgument_15 (by rfl) ?_
    refine aw_getNO (pc := 16) X _ 3 (by omega) (by (repeat (first | rw [aw_up_eq] | rw [aw_up_ne _ _ (by first | assumption | omega)])) <;> first | assumption | rfl) (by rfl) in_Ca (by decide) k_287 (by rfl) d_Cs_nextArgument_16 ?_
    refine aw_aload_nR (pc := 19) X d_Cs_nextArgument_19 (by rfl) ?_
    refine aw_getO (pc := 20) X _ 0 (by omega) (by (repeat (first | rw [aw_up_eq] | rw [aw_up_ne _ _ (by first | assumption | omega)])) <;> first | assumption | rfl) (by rfl) in_Cs (by decide) k_308 (by rfl) d_Cs_nextArgument_20 ?_
    refine aw_getNO (pc := 23) X _ 1 (by omega) (by (repeat (first | rw [aw_up_eq] | rw [aw_up_ne _ _ (by first | assumption | omega)])) <;> first | assumption | rfl) (by rfl) in_Tx (by decide) k_119 (by rfl) d_Cs_nextArgument_23 ?_
    refine aw_iastN (pc := 26) X _ 1 (by omega) (by (repeat (first | rw [aw_up_eq] | rw [aw_up_ne _ _ (by first | assumption | omega)])) <;> first | assumption | rfl) (by rfl) (by omega) (by omega) d_Cs_nextArgument_26 ?_
    refine aw_aload_nR (pc := 27) X d_Cs_nextArgument_27 (by rfl) ?_
    refine aw_dup (pc := 28) X d_Cs_nextArgument_28 (by rfl) ?_
    refine aw_getNO (pc := 29) X _ 3 (by omega) (by (repeat (first | rw [aw_up_eq] | rw [aw_up_ne _ _ (by first | assumption | omega)])) <;> first | assumption | rfl) (by rfl) in_Ca (by decide) k_287 (by rfl) d_Cs_nextArgument_29 ?_
    refine aw_iconstN (pc := 32) X 1 d_Cs_nextArgument_32 (by decide) ?_
    refine aw_iaddN (pc := 33) X d_Cs_nextArgument_33 ?_
    refine aw_putNO (pc := 34) X _ 3 (by omega) (by (repeat (first | rw [aw_up_eq] | rw [aw_up_ne _ _ (by first | assumption | omega)])) <;> first | assumption | rfl) (by rfl) in_Ca (by decide) ty_Ca ok_Ca nm_Ca k_287 (by rfl) (by rfl) (by rfl) (by simp) (fs' := [_, _, _, _, _, _]) (by rfl) d_Cs_nextArgument_34 ?_
    refine aw_aload_nR (pc := 37) X d_Cs_nextArgument_37 (by rfl) ?_
    refine aw_iconstN (pc := 38) X 0 d_Cs_nextArgument_38 (by decide) ?_
    refine aw_putNO (pc := 39) X _ 5 (by omega) (by (repeat (first | rw [aw_up_eq] | rw [aw_up_ne _ _ (by first | assumption | omega)])) <;> first | assumption | rfl) (by rfl) in_Ca (by decide) ty_Ca ok_Ca nm_Ca k_292 (by rfl) (by decide +kernel) (by decide +kernel) (by simp) (fs' := [_, _, _, _, _, _]) (by rfl) d_Cs_nextArgument_39 ?_
    refine aw_iconstN (pc := 42) X 1 d_Cs_nextArgument_42 (by decide) ?_
    refine aw_zret Y X rfl (by decide +kernel) d_Cs_nextArgument_43 (by omega) (by omega) (hP _ _ _ ?_)
    -- ret 43 lv=0:r,1:r st=n
    refine ⟨rfl, Or.inr ⟨h6, rfl, ?_, ?_⟩⟩
    · simp only [aw_up_up]
      generalize hw3 : aw_up (aw_up w (321 + 7 * c.length + 6) _) (321 + 7 * c.length) _ = w3
      have e2 : w3 (321 + 7 * c.length) = oCa G (321 + 7 * c.length) (u.2.1.length + 1) u.2.2.1 false := by rw [← hw3]; exact aw_up_eq _ _ _
      have e3 : w3 (321 + 7 * c.length + 6) = aArr (G.2.2.2.1 1) 10 (aw_un st u.2.1.length ga.length) := by rw [← hw3, aw_up_ne _ _ (by omega)]; exact aw_up_eq _ _ _
      have e4 : ∀ x, x ≠ 321 + 7 * c.length → x ≠ 321 + 7 * c.length + 6 → w3 x = w x := fun x q2 q3 => by rw [← hw3, aw_up_ne _ _ q2, aw_up_ne _ _ q3]
      have hlen : (u.2.1 ++ [ga.length]).length = u.2.1.length + 1 := by simp
      refine h0.upd (v := (u.1, u.2.1 ++ [ga.length], u.2.2.1, false)) (st := aw_un st u.2.1.length ga.length) (a3.kept (e4 _ (by omega) (by omega)) (e4 _ (by omega) (by omega))) ⟨by rw [hlen]; exact e2, ⟨(e4 _ (by omega) (by omega)).trans b1.2.1.1, b1.2.1.2.1.kept (e4 _ (by omega) (by omega)) (e4 _ (by omega) (by omega)), b1.2.1.2.2.kept (e4 _ (by omega) (by omega)) (e4 _ (by omega) (by omega))⟩, e3⟩ ?_ b3 b4 ⟨?_, by rw [hlen]; omega, ?_, ?_⟩ (fun x hx => e4 x (by omega) (by omega))
      · show u.2.1 ++ [ga.length] = sl _ 0 (u.2.1 ++ [ga.length]).length
        rw [hlen, sl_app]
        congr 1
        · conv => lhs; rw [b2]
          exact sl_congr (fun i hi => by rw [aw_un_ne _ _ (by omega)])
        · rw [sl_cons, sl_0, Nat.zero_add, aw_un_eq]
      · obtain ⟨⟨x, y, q1, q2⟩, -⟩ := hok
        exact ⟨x, y ++ [ga.length], by show u.2.1 ++ [ga.length] = _; rw [q1]; rfl, q2⟩
      · refine List.pairwise_append.mpr ⟨hok.2.2.1, by simp, fun x hx y hy => ?_⟩
        rw [List.mem_singleton.mp hy]
        exact hok.2.2.2 x hx
      · intro x hx
        rcases List.mem_append.mp hx with q | q
        · exact hok.2.2.2 x q
        · rw [List.mem_singleton.mp q]; exact Nat.le_refl _
    · exact ((((fr.refl _ _ _).up _ (by omega)).up _ (by omega)).up _ (by omega))
  · refine aw_iconstN (pc := 9) X 0 d_Cs_nextArgument_9 (by decide) ?_
    refine aw_zret Y X rfl (by decide +kernel) d_Cs_nextArgument_10 (by omega) (by omega) (hP _ _ _ ?_)
    -- ret 10 lv=0:r,1:r st=n
    exact ⟨rfl, Or.inl ⟨h6, rfl, rfl⟩⟩
end
end
section
/-! Calls.close -/
theorem sl_getD {g : Nat → Nat} {s n i : Nat} (h : i < n) : (sl g s n).getD i 0 = g (s + i) := by
  rw [List.getD_eq_getElem?_getD, sl_get h]
  rfl
theorem cut_get (ga : List Nat) : ∀ (l : List Nat) (i : Nat), i < l.length → (cut ga l).getD i [] = (ga.drop (l.getD i 0)).take ((if i + 1 < l.length then l.getD (i + 1) 0 else ga.length) - l.getD i 0)
  | [], i, h => absurd h (by simp)
  | [x], i, h => by
    have : i = 0 := by simpa using h
    subst this
    simp [cut]
    rw [List.take_of_length_le (by simp)]
  | x :: y :: r, 0, h => by simp [cut]
  | x :: y :: r, i + 1, h => by
    have := cut_get ga (y :: r) i (by simpa using h)
    simp only [cut, List.getD_cons_succ, this, List.length_cons]
    congr 2
    by_cases q : i + 1 < r.length + 1
    · rw [if_pos q, if_pos (by omega)]
    · rw [if_neg q, if_neg (by omega)]
section
variable {G : aw_G} {nx d : Nat} {w : Nat → va_E}
theorem s_Cs_close {ga : List Nat} {u : CS} {c : List CS} {mo : Nat} (hnx : 412 ≤ nx) (hd : 1 ≤ d) (h : hCs G w ga (u :: c) mo) : AC G y_Cs_close b_Cs_close 2 (some (.object "RescanDesk$Call")) d false [rf G 317] nx w 0 0 (fun r w' nx' => nx' = nx ∧ r = some (rf G (321 + 7 * c.length)) ∧ hCs G w' (ga.take (u.2.1.getD 0 0)) c mo ∧ hRdy G w' (321 + 7 * c.length) u.1 (cut ga u.2.1) ∧ fr 317 412 w w') := by
  have h0 := h
  obtain ⟨hc, st, b1, b2, b3, b4⟩ := h0.top
  obtain ⟨a1, a2, a3, ⟨f, a4, a5⟩, a6, ⟨t0, dp, bg, a7, a8⟩, a9, a10⟩ := h
  have hok : okC (u :: c) ga.length := a9
  have a2' : w 317 = aObj 6 [rf G 318, rf G 320, rf G 405, .int (nI (c.length + 1)), .int (nI mo)] := a2
  have b1' : w (321 + 7 * c.length) = aObj 7 [rf G (321 + 7 * c.length + 1), rf G 319, rf G (321 + 7 * c.length + 6), .int (nI u.2.1.length), .int (nI u.2.2.1), .int (nI (bN u.2.2.2))] := b1.1
  have b16 := b1.2.2
  have a3o := a3.obj
  have hl9 := hok.2.1
  have hga := a3.le
  obtain ⟨⟨s0, ss, hs0, hokc⟩, -, hpw, hall⟩ := hok
  have hn1 : 1 ≤ u.2.1.length := by rw [hs0]; simp
  have hs00 : st 0 = s0 := by
    have := congrArg (fun l => l[0]?) b2
    rw [sl_get (by omega), hs0] at this
    simpa using this.symm
  have hs0g : s0 ≤ ga.length := hall s0 (by rw [hs0]; simp)
  have hgd : u.2.1.getD 0 0 = s0 := by rw [hs0]; rfl
  obtain ⟨gg, g1, g2, g3⟩ := a3.arr
  refine AC.ofW (by decide) (Nat.le_of_ble_eq_true rfl) ?_
  intro E P hP Y X
  have X : aw_X G "RescanDesk$Calls" b_Cs_close 2 (some (.object "RescanDesk$Call")) "close" _ _ _ _ _ E := X
  refine AW.eql (lv' := [(0, _)]) (by rfl) ?_
  refine aw_aload_nR (pc := 0) X d_Cs_close_0 (by rfl) ?_
  -- invokevirtual 1 lv=0:r st=r
  refine aw_callV (pc := 1) X _ (s_Cs_latest (d := 0) hnx h0) q_Cs_latest k_600 k_589 k_590 (by omega) a2 (by rfl) d_Cs_close_1 (by omega) (Nat.le_of_ble_eq_true rfl) ⟨by omega, by omega⟩ (fun h => by cases h) (fun r w2 nx2 hp => ?_)
  obtain ⟨rfl, rfl, rfl⟩ := hp
  refine aw_astore_nR (pc := 4) X (lv' := [(1, _), (0, _)]) d_Cs_close_4 (by decide) (by rfl) ?_
  refine aw_aload_nR (pc := 5) X d_Cs_close_5 (by rfl) ?_
  refine aw_ifnull (pc := 6) X d_Cs_close_6 ?_
  refine aw_aload_nR (pc := 9) X d_Cs_close_9 (by rfl) ?_
  refine aw_getNO (pc := 10) X _ 2 (by omega) (by (repeat (first | rw [aw_up_eq] | rw [aw_up_ne _ _ (by first | assumption | omega)])) <;> first | assumption | rfl) (by rfl) in_Ca (by decide) k_284 (by rfl) d_Cs_close_10 ?_
  refine aw_aload_nR (pc := 13) X d_Cs_close_13 (by rfl) ?_
  refine aw_getNO (pc := 14) X _ 3 (by omega) (by (repeat (first | rw [aw_up_eq] | rw [aw_up_ne _ _ (by first | assumption | omega)])) <;> first | assumption | rfl) (by rfl) in_Ca (by decide) k_287 (by rfl) d_Cs_close_14 ?_
  refine aw_aload_nR (pc := 17) X d_Cs_close_17 (by rfl) ?_
  refine aw_getO (pc := 18) X _ 0 (by omega) (by (repeat (first | rw [aw_up_eq] | rw [aw_up_ne _ _ (by first | assumption | omega)])) <;> first | assumption | rfl) (by rfl) in_Cs (by decide) k_308 (by rfl) d_Cs_close_18 ?_
  refine aw_getNO (pc := 21) X _ 1 (by omega) (by (repeat (first | rw [aw_up_eq] | rw [aw_up_ne _ _ (by first | assumption | omega)])) <;> first | assumption | rfl) (by rfl) in_Tx (by decide) k_119 (by rfl) d_Cs_close_21 ?_
  refine aw_iastN (pc := 24) X _ 1 (by omega) (by (repeat (first | rw [aw_up_eq] | rw [aw_up_ne _ _ (by first | assumption | omega)])) <;> first | assumption | rfl) (by rfl) (by omega) (by omega) d_Cs_close_24 ?_
  refine aw_aload_nR (pc := 25) X d_Cs_close_25 (by rfl) ?_
  refine aw_getO (pc := 26) X _ 0 (by omega) (by (repeat (first | rw [aw_up_eq] | rw [aw_up_ne _ _ (by first | assumption | omega)])) <;> first | assumption | rfl) (by rfl) in_Cs (by decide) k_308 (by rfl) d_Cs_close_26 ?_
  refine aw_aload_nR (pc := 29) X d_Cs_close_29 (by rfl) ?_
  refine aw_getNO (pc := 30) X _ 2 (by omega) (by (repeat (first | rw [aw_up_eq] | rw [aw_up_ne _ _ (by first | assumption | omega)])) <;> first | assumption | rfl) (by rfl) in_Ca (by decide) k_284 (by rfl) d_Cs_close_30 ?_
  refine aw_iconstN (pc := 33) X 0 d_Cs_close_33 (by decide) ?_
  refine aw_ialdN (pc := 34) X _ 1 (by omega) (by (repeat (first | rw [aw_up_eq] | rw [aw_up_ne _ _ (by first | assumption | omega)])) <;> first | assumption | rfl) (by rfl) (by omega) (by omega) d_Cs_close_34 ?_
  refine aw_putNO (pc := 35) X _ 1 (by omega) (by (repeat (first | rw [aw_up_eq] | rw [aw_up_ne _ _ (by first | assumption | omega)])) <;> first | assumption | rfl) (by rfl) in_Tx (by decide) ty_Tx ok_Tx nm_Tx k_119 (by rfl) (by rfl) (by rfl) (by simp) (fs' := [_, _]) (by rfl) d_Cs_close_35 ?_
  refine aw_aload_nR (pc := 38) X d_Cs_close_38 (by rfl) ?_
  refine aw_dup (pc := 39) X d_Cs_close_39 (by rfl) ?_
  refine aw_getO (pc := 40) X _ 3 (by omega) (by (repeat (first | rw [aw_up_eq] | rw [aw_up_ne _ _ (by first | assumption | omega)])) <;> first | assumption | rfl) (by rfl) in_Cs (by decide) k_312 (by rfl) d_Cs_close_40 ?_
  refine aw_iconstN (pc := 43) X 1 d_Cs_close_43 (by decide) ?_
  refine aw_isubN (pc := 44) X d_Cs_close_44 (by omega) ?_
  refine aw_putO (pc := 45) X _ 3 (by omega) (by (repeat (first | rw [aw_up_eq] | rw [aw_up_ne _ _ (by first | assumption | omega)])) <;> first | assumption | rfl) (by rfl) in_Cs (by decide) ty_Cs ok_Cs nm_Cs k_312 (by rfl) (by rfl) (by rfl) (by simp) (fs' := [_, _, _, _, _]) (by rfl) d_Cs_close_45 ?_
  refine aw_aload_nR (pc := 48) X d_Cs_close_48 (by rfl) ?_
  refine aw_aret Y X rfl (Or.inr ⟨_, rfl⟩) d_Cs_close_49 (by omega) (by omega) (hP _ _ _ ?_)
  -- ret 49 lv=1:r,0:r st=r
  have hz : aw_un st u.2.1.length ga.length 0 = s0 := by rw [aw_un_ne _ _ (by omega), hs00]
  refine ⟨rfl, rfl, ?_⟩
  rw [hz, hgd]
  generalize hw3 : aw_up (aw_up (aw_up w2 (321 + 7 * c.length + 6) _) 318 _) 317 _ = w3
  have e1 : w3 317 = aObj 6 [rf G 318, rf G 320, rf G 405, .int (nI c.length), .int (nI mo)] := by rw [← hw3]; exact aw_up_eq _ _ _
  have e2 : w3 318 = oTx G 319 s0 := by rw [← hw3, aw_up_ne _ _ (by omega)]; exact aw_up_eq _ _ _
  have e3 : w3 (321 + 7 * c.length + 6) = aArr (G.2.2.2.1 1) 10 (aw_un st u.2.1.length ga.length) := by rw [← hw3, aw_up_ne _ _ (by omega), aw_up_ne _ _ (by omega)]; exact aw_up_eq _ _ _
  have e4 : ∀ x, x ≠ 317 → x ≠ 318 → x ≠ 321 + 7 * c.length + 6 → w3 x = w2 x := fun x q1 q2 q3 => by rw [← hw3, aw_up_ne _ _ q1, aw_up_ne _ _ q2, aw_up_ne _ _ q3]
  have kk : ∀ (a n dp : Nat) (t : Def) (st : Nat → Nat) (bg : Bool), hCa G w2 a t st n dp bg → 321 ≤ a → (a + 7 ≤ 321 + 7 * c.length ∨ 321 + 7 * c.length + 7 ≤ a) → hCa G w3 a t st n dp bg := fun a n dp t st bg q q1 q2 =>
    ⟨(e4 _ (by omega) (by omega) (by omega)).trans q.1, ⟨(e4 _ (by omega) (by omega) (by omega)).trans q.2.1.1, q.2.1.2.1.kept (e4 _ (by omega) (by omega) (by omega)) (e4 _ (by omega) (by omega) (by omega)), q.2.1.2.2.kept (e4 _ (by omega) (by omega) (by omega)) (e4 _ (by omega) (by omega) (by omega))⟩, (e4 _ (by omega) (by omega) (by omega)).trans q.2.2⟩
  have hself : hCa G w3 (321 + 7 * c.length) u.1 (aw_un st u.2.1.length ga.length) u.2.1.length u.2.2.1 u.2.2.2 :=
    ⟨(e4 _ (by omega) (by omega) (by omega)).trans b1.1, ⟨(e4 _ (by omega) (by omega) (by omega)).trans b1.2.1.1, b1.2.1.2.1.kept (e4 _ (by omega) (by omega) (by omega)) (e4 _ (by omega) (by omega) (by omega)), b1.2.1.2.2.kept (e4 _ (by omega) (by omega) (by omega)) (e4 _ (by omega) (by omega) (by omega))⟩, e3⟩
  have htl : (ga.take s0).length = s0 := by rw [List.length_take]; omega
  refine ⟨⟨by omega, e1, ⟨gg, by rw [htl]; exact e2, (e4 _ (by omega) (by omega) (by omega)).trans g1, ?_, by omega, g3⟩, ⟨f, (e4 _ (by omega) (by omega) (by omega)).trans a4, a5⟩, fun i hi => ?_, ⟨t0, dp, bg, kk _ _ _ _ _ _ a7 (by omega) (by omega), a8⟩, by rw [htl]; exact hokc, a10⟩, ?_, ?_⟩
  · rw [htl]
    conv => lhs; rw [g2]
    exact sl_take _ _ _ _ hs0g
  · by_cases e : i = c.length
    · subst e
      exact ⟨_, _, _, _, _, hself, hl9, b3, b4, fun x hx => by
        rw [List.getElem?_eq_none_iff.mpr (by simp)] at hx
        cases hx⟩
    · obtain ⟨t1, st1, n1, dp1, bg1, x1, x2, x3, x4, x5⟩ := a6 i hi
      refine ⟨t1, st1, n1, dp1, bg1, kk _ _ _ _ _ _ x1 (by omega) (by omega), x2, x3, x4, fun x hx => x5 x ?_⟩
      simp only [List.reverse_cons]
      have : i < c.reverse.length := (List.getElem?_eq_some_iff.mp hx).1
      rw [List.getElem?_append_left this]
      exact hx
  · have hcl : (cut ga u.2.1).length = u.2.1.length := cut_len _ _
    have hst : ∀ i, i < u.2.1.length → u.2.1.getD i 0 = st i := fun i hi => by
      have q : u.2.1.getD i 0 = (sl st 0 u.2.1.length).getD i 0 := congrArg (fun l => l.getD i 0) b2
      rw [q, sl_getD hi, Nat.zero_add]
    have hle : ∀ i, i ≤ u.2.1.length → aw_un st u.2.1.length ga.length i ≤ ga.length := fun i hi => by
      by_cases e : i = u.2.1.length
      · rw [e, aw_un_eq]; exact Nat.le_refl _
      · rw [aw_un_ne _ _ e, ← hst i (by omega)]
        refine hall _ ?_
        rw [List.getD_eq_getElem?_getD, List.getElem?_eq_getElem (by omega)]
        exact List.getElem_mem _
    have hmono : ∀ i j, i ≤ j → j ≤ u.2.1.length → aw_un st u.2.1.length ga.length i ≤ aw_un st u.2.1.length ga.length j := fun i j hij hj => by
      by_cases e : j = u.2.1.length
      · rw [e, aw_un_eq]; exact hle i (by omega)
      · rw [aw_un_ne _ _ e, aw_un_ne _ _ (by omega), ← hst i (by omega), ← hst j (by omega)]
        by_cases q : i = j
        · rw [q]; exact Nat.le_refl _
        · have := List.pairwise_iff_getElem.mp hpw i j (by omega) (by omega) (by omega)
          rw [List.getD_eq_getElem?_getD, List.getD_eq_getElem?_getD, List.getElem?_eq_getElem (by omega), List.getElem?_eq_getElem (by omega)]
          exact this
    refine ⟨aw_un st u.2.1.length ga.length, gg, u.2.2.1, u.2.2.2, by rw [hcl]; exact hself, by rw [hcl]; exact ⟨hl9, hmono, by rw [aw_un_eq]; exact hga⟩, (e4 _ (by omega) (by omega) (by omega)).trans g1, g3, b4, fun i => ?_⟩
    rw [hcl]
    by_cases q : 1 ≤ i ∧ i ≤ u.2.1.length
    · have m1 := hmono (i - 1) i (by omega) q.2
      have m2 := hle i q.2
      rw [if_pos q, cut_get ga u.2.1 (i - 1) (by omega), argL, frm, too, if_pos q, if_pos q]
      have e5 : (if i - 1 + 1 < u.2.1.length then u.2.1.getD (i - 1 + 1) 0 else ga.length) = aw_un st u.2.1.length ga.length i := by
        by_cases z : i < u.2.1.length
        · rw [if_pos (by omega), show i - 1 + 1 = i by omega, hst i z, aw_un_ne _ _ (by omega)]
        · rw [if_neg (by omega), show i = u.2.1.length by omega, aw_un_eq]
      have e6 : u.2.1.getD (i - 1) 0 = aw_un st u.2.1.length ga.length (i - 1) := by rw [hst _ (by omega), aw_un_ne _ _ (by omega)]
      rw [e5, e6]
      generalize aw_un st u.2.1.length ga.length (i - 1) = x1 at m1
      generalize aw_un st u.2.1.length ga.length i = x2 at m1 m2
      have e7 : ga.drop x1 = sl gg x1 (ga.length - x1) := by
        have q := sl_drop gg 0 ga.length x1 (by omega)
        rw [Nat.zero_add, ← g2] at q
        exact q
      rw [e7, sl_take _ _ _ _ (by omega)]
    · rw [if_neg q, argL, frm, too, if_neg q, if_neg q]
      rfl
  · intro x hx
    exact e4 x (by omega) (by omega) (by omega)
end
end
section
/-! Text.addNumber: a number in decimal -/
def y_Tx_addNumber : MethodName := ⟨"RescanDesk$Text", "addNumber", "(J)V"⟩
abbrev b_Tx_addNumber : ByteArray := prog_12_method_7_code
theorem d_Tx_addNumber_0 : decode b_Tx_addNumber 0 = .ok (.lload_n 1, 1) := by decide +kernel
theorem d_Tx_addNumber_1 : decode b_Tx_addNumber 1 = .ok (.lconst 0, 1) := by decide +kernel
theorem d_Tx_addNumber_2 : decode b_Tx_addNumber 2 = .ok (.lcmp, 1) := by decide +kernel
theorem d_Tx_addNumber_3 : decode b_Tx_addNumber 3 = .ok (.ifCond .ge 10, 3) := by decide +kernel
theorem d_Tx_addNumber_6 : decode b_Tx_addNumber 6 = .ok (.aload_n 0, 1) := by decide +kernel
theorem d_Tx_addNumber_7 : decode b_Tx_addNumber 7 = .ok (.bipush 45, 2) := by decide +kernel
theorem d_Tx_addNumber_9 : decode b_Tx_addNumber 9 = .ok (.invokevirtual 35, 3) := by decide +kernel
theorem d_Tx_addNumber_12 : decode b_Tx_addNumber 12 = .ok (.pop, 1) := by decide +kernel
theorem d_Tx_addNumber_13 : decode b_Tx_addNumber 13 = .ok (.lload_n 1, 1) := by decide +kernel
theorem d_Tx_addNumber_14 : decode b_Tx_addNumber 14 = .ok (.lconst 0, 1) := by decide +kernel
theorem d_Tx_addNumber_15 : decode b_Tx_addNumber 15 = .ok (.lcmp, 1) := by decide +kernel
theorem d_Tx_addNumber_16 : decode b_Tx_addNumber 16 = .ok (.ifCond .ge 7, 3) := by decide +kernel
theorem d_Tx_addNumber_19 : decode b_Tx_addNumber 19 = .ok (.lload_n 1, 1) := by decide +kernel
theorem d_Tx_addNumber_20 : decode b_Tx_addNumber 20 = .ok (.goto 5, 3) := by decide +kernel
theorem d_Tx_addNumber_23 : decode b_Tx_addNumber 23 = .ok (.lload_n 1, 1) := by decide +kernel
theorem d_Tx_addNumber_24 : decode b_Tx_addNumber 24 = .ok (.lneg, 1) := by decide +kernel
theorem d_Tx_addNumber_25 : decode b_Tx_addNumber 25 = .ok (.lstore_n 3, 1) := by decide +kernel
theorem d_Tx_addNumber_26 : decode b_Tx_addNumber 26 = .ok (.lconst 1, 1) := by decide +kernel
theorem d_Tx_addNumber_27 : decode b_Tx_addNumber 27 = .ok (.lstore 5, 2) := by decide +kernel
theorem d_Tx_addNumber_29 : decode b_Tx_addNumber 29 = .ok (.iconst 1, 1) := by decide +kernel
theorem d_Tx_addNumber_30 : decode b_Tx_addNumber 30 = .ok (.istore 7, 2) := by decide +kernel
theorem d_Tx_addNumber_32 : decode b_Tx_addNumber 32 = .ok (.iload 7, 2) := by decide +kernel
theorem d_Tx_addNumber_34 : decode b_Tx_addNumber 34 = .ok (.bipush 19, 2) := by decide +kernel
theorem d_Tx_addNumber_36 : decode b_Tx_addNumber 36 = .ok (.if_icmp .ge 28, 3) := by decide +kernel
theorem d_Tx_addNumber_39 : decode b_Tx_addNumber 39 = .ok (.lload_n 3, 1) := by decide +kernel
theorem d_Tx_addNumber_40 : decode b_Tx_addNumber 40 = .ok (.lload 5, 2) := by decide +kernel
theorem d_Tx_addNumber_42 : decode b_Tx_addNumber 42 = .ok (.ldiv, 1) := by decide +kernel
theorem d_Tx_addNumber_43 : decode b_Tx_addNumber 43 = .ok (.ldc2_w 39, 3) := by decide +kernel
theorem d_Tx_addNumber_46 : decode b_Tx_addNumber 46 = .ok (.lcmp, 1) := by decide +kernel
theorem d_Tx_addNumber_47 : decode b_Tx_addNumber 47 = .ok (.ifCond .gt 17, 3) := by decide +kernel
theorem d_Tx_addNumber_50 : decode b_Tx_addNumber 50 = .ok (.lload 5, 2) := by decide +kernel
theorem d_Tx_addNumber_52 : decode b_Tx_addNumber 52 = .ok (.ldc2_w 41, 3) := by decide +kernel
theorem d_Tx_addNumber_55 : decode b_Tx_addNumber 55 = .ok (.lmul, 1) := by decide +kernel
theorem d_Tx_addNumber_56 : decode b_Tx_addNumber 56 = .ok (.lstore 5, 2) := by decide +kernel
theorem d_Tx_addNumber_58 : decode b_Tx_addNumber 58 = .ok (.iinc 7 1, 3) := by decide +kernel
theorem d_Tx_addNumber_61 : decode b_Tx_addNumber 61 = .ok (.goto (-29), 3) := by decide +kernel
theorem d_Tx_addNumber_64 : decode b_Tx_addNumber 64 = .ok (.iconst 0, 1) := by decide +kernel
theorem d_Tx_addNumber_65 : decode b_Tx_addNumber 65 = .ok (.istore 7, 2) := by decide +kernel
theorem d_Tx_addNumber_67 : decode b_Tx_addNumber 67 = .ok (.iload 7, 2) := by decide +kernel
theorem d_Tx_addNumber_69 : decode b_Tx_addNumber 69 = .ok (.bipush 19, 2) := by decide +kernel
theorem d_Tx_addNumber_71 : decode b_Tx_addNumber 71 = .ok (.if_icmp .ge 43, 3) := by decide +kernel
theorem d_Tx_addNumber_74 : decode b_Tx_addNumber 74 = .ok (.lload 5, 2) := by decide +kernel
theorem d_Tx_addNumber_76 : decode b_Tx_addNumber 76 = .ok (.lconst 0, 1) := by decide +kernel
theorem d_Tx_addNumber_77 : decode b_Tx_addNumber 77 = .ok (.lcmp, 1) := by decide +kernel
theorem d_Tx_addNumber_78 : decode b_Tx_addNumber 78 = .ok (.ifCond .le 36, 3) := by decide +kernel
theorem d_Tx_addNumber_81 : decode b_Tx_addNumber 81 = .ok (.aload_n 0, 1) := by decide +kernel
theorem d_Tx_addNumber_82 : decode b_Tx_addNumber 82 = .ok (.ldc2_w 43, 3) := by decide +kernel
theorem d_Tx_addNumber_85 : decode b_Tx_addNumber 85 = .ok (.lload_n 3, 1) := by decide +kernel
theorem d_Tx_addNumber_86 : decode b_Tx_addNumber 86 = .ok (.lload 5, 2) := by decide +kernel
theorem d_Tx_addNumber_88 : decode b_Tx_addNumber 88 = .ok (.ldiv, 1) := by decide +kernel
theorem d_Tx_addNumber_89 : decode b_Tx_addNumber 89 = .ok (.ldc2_w 41, 3) := by decide +kernel
theorem d_Tx_addNumber_92 : decode b_Tx_addNumber 92 = .ok (.lrem, 1) := by decide +kernel
theorem d_Tx_addNumber_93 : decode b_Tx_addNumber 93 = .ok (.lsub, 1) := by decide +kernel
theorem d_Tx_addNumber_94 : decode b_Tx_addNumber 94 = .ok (.l2i, 1) := by decide +kernel
theorem d_Tx_addNumber_95 : decode b_Tx_addNumber 95 = .ok (.i2c, 1) := by decide +kernel
theorem d_Tx_addNumber_96 : decode b_Tx_addNumber 96 = .ok (.invokevirtual 35, 3) := by decide +kernel
theorem d_Tx_addNumber_99 : decode b_Tx_addNumber 99 = .ok (.pop, 1) := by decide +kernel
theorem d_Tx_addNumber_100 : decode b_Tx_addNumber 100 = .ok (.lload 5, 2) := by decide +kernel
theorem d_Tx_addNumber_102 : decode b_Tx_addNumber 102 = .ok (.ldc2_w 41, 3) := by decide +kernel
theorem d_Tx_addNumber_105 : decode b_Tx_addNumber 105 = .ok (.ldiv, 1) := by decide +kernel
theorem d_Tx_addNumber_106 : decode b_Tx_addNumber 106 = .ok (.lstore 5, 2) := by decide +kernel
theorem d_Tx_addNumber_108 : decode b_Tx_addNumber 108 = .ok (.iinc 7 1, 3) := by decide +kernel
theorem d_Tx_addNumber_111 : decode b_Tx_addNumber 111 = .ok (.goto (-44), 3) := by decide +kernel
theorem d_Tx_addNumber_114 : decode b_Tx_addNumber 114 = .ok (.return_, 1) := by decide +kernel
theorem q_Tx_addNumber : aw_q1 y_Tx_addNumber b_Tx_addNumber 8 none 1 := ⟨k_638, k_64, ⟨by decide, by decide, by decide +kernel⟩, by decide⟩
theorem lg_lt0 (x y : Int64) : lg_cmp x y < 0 ↔ x < y := by
  unfold lg_cmp
  by_cases h1 : y < x
  · simp only [h1, if_true]
    exact ⟨fun q => absurd q (by decide), fun q => (Int64.lt_irrefl (Int64.lt_trans h1 q)).elim⟩
  · by_cases h2 : x = y
    · subst h2; simp [Int64.lt_irrefl]
    · simp only [h1, h2, if_false]
      exact ⟨fun _ => Int64.lt_of_le_of_ne (Int64.not_lt.mp h1) h2, fun _ => by decide⟩
theorem lg_gt0 (x y : Int64) : 0 < lg_cmp x y ↔ y < x := by
  unfold lg_cmp
  by_cases h1 : y < x
  · simp only [h1, if_true]; exact ⟨fun _ => trivial, fun _ => by decide⟩
  · by_cases h2 : x = y
    · subst h2; simp [Int64.lt_irrefl]
    · simp only [h1, h2, if_false]
      exact ⟨fun q => absurd q (by decide), fun q => q.elim⟩
theorem lg_eq0 (x y : Int64) : lg_cmp x y = 0 ↔ x = y := by
  unfold lg_cmp
  by_cases h1 : y < x
  · simp only [h1, if_true]
    exact ⟨fun q => absurd q (by decide), fun q => by subst q; exact (Int64.lt_irrefl h1).elim⟩
  · by_cases h2 : x = y
    · subst h2; simp [Int64.lt_irrefl]
    · simp only [h1, h2, if_false]
      exact ⟨fun q => absurd q (by decide), fun q => q.elim⟩
theorem mT {n : Nat} (h : n ≤ 2 ^ 63) : (-lN n).toInt = -(n : Int) := Int64.toInt_neg_ofNat_of_le h
theorem mdiv {n b : Nat} (hn : n ≤ 2 ^ 63) (h0 : 0 < b) (hb : b < 2 ^ 63) : (-lN n) / lN b = -lN (n / b) := by
  apply Int64.toInt_inj.mp
  have hne : lN b ≠ -1 := fun e => by
    have := congrArg Int64.toInt e
    rw [pk_lT hb] at this
    have e1 : (-1 : Int64).toInt = -1 := by decide
    omega
  rw [Int64.toInt_div_of_ne_right _ _ hne, mT hn, pk_lT hb, mT (Nat.le_trans (Nat.div_le_self n b) hn), Int.neg_tdiv]
  congr 1
theorem mdig {q : Nat} (hq : q ≤ 2 ^ 63) : ((48 : Int64) - (-lN q - -lN q / 10 * 10)).toInt32 = nI (48 + q % 10) := by
  have e10 : (10 : Int64) = lN 10 := by decide
  have e48 : (48 : Int64) = lN 48 := by decide
  have h1 : -lN q - -lN q / 10 * 10 = -lN (q % 10) := by
    conv => lhs; rw [e10, mdiv hq (by omega) (by omega)]
    have h2 : lN q = lN (q / 10 * 10) + lN (q % 10) := by rw [lN_add]; congr 1; omega
    rw [Int64.neg_mul, lN_mul, h2, Int64.sub_eq_add_neg, Int64.neg_neg, Int64.neg_add]
    rw [Int64.sub_eq_add_neg, Int64.add_comm (-lN (q / 10 * 10)), Int64.add_assoc, Int64.add_left_neg, Int64.add_zero]
  rw [h1, e48, Int64.sub_eq_add_neg, Int64.neg_neg, lN_add, lN_i]
/-- the digits of n from place k down -/
def dgl (n : Nat) : Nat → List Nat
  | 0 => [48 + n / 10 ^ 0 % 10]
  | k + 1 => (48 + n / 10 ^ (k + 1) % 10) :: dgl n k
/-- the highest digit's place, from k on -/
def topx (n : Nat) : Nat → Nat → Nat
  | 0, k => k
  | f + 1, k => if n / 10 ^ k < 10 then k else topx n f (k + 1)
def dec (v : Int64) : List Nat := (if v < 0 then [45] else []) ++ dgl v.toInt.natAbs (topx v.toInt.natAbs 18 0)
theorem topx_le (n : Nat) : ∀ f k, topx n f k ≤ f + k
  | 0, k => by simp [topx]
  | f + 1, k => by unfold topx; split; · omega
                   · have := topx_le n f (k + 1); omega
theorem take_app {α : Type} (s r : List α) (m : Nat) : (s.take m ++ r).take m = (s ++ r).take m := by
  by_cases h : s.length ≤ m
  · rw [List.take_of_length_le h]
  · rw [List.take_append_of_le_length (by simp; omega), List.take_append_of_le_length (by omega), List.take_take, Nat.min_self]
section
variable {G : aw_G} {nx d : Nat} {w : Nat → va_E}
theorem s_Tx_addNumber {a m : Nat} {s : List Nat} {v : Int64} (ha : a + 1 < nx) (hm : m < 2 ^ 20) (hd : 1 ≤ d) (h : hTx G w a m s) : AC G y_Tx_addNumber b_Tx_addNumber 8 none d false [rf G a, .long v] nx w 0 0 (fun r w' nx' => nx' = nx ∧ r = none ∧ hTx G w' a m ((s ++ dec v).take m) ∧ fr a (a + 2) w w') := by
  have hN : v.toInt.natAbs ≤ 2 ^ 63 := by
    have h1 := Int64.le_toInt v
    have h2 := Int64.toInt_lt v
    omega
  generalize hNe : v.toInt.natAbs = N at hN
  have hb10 : ∀ k, k ≤ 18 → (10 : Nat) ^ k < 2 ^ 63 := fun k hk => Nat.lt_of_le_of_lt (Nat.pow_le_pow_right (by omega) hk) (by decide)
  have hp10 : ∀ k, 0 < (10 : Nat) ^ k := fun k => Nat.pow_pos (by omega)
  have e10 : (10 : Int64) = lN 10 := by decide
  refine AC.ofW (by decide) (Nat.le_of_ble_eq_true rfl) ?_
  intro E P hP Y X
  have X : aw_X G "RescanDesk$Text" b_Tx_addNumber 8 none "addNumber" _ _ _ _ _ E := X
  refine AW.eql (lv' := [(0, _), (1, _)]) (by rfl) ?_
  -- the second loop
  have L2 : ∀ (k i : Nat) (w1 : Nat → va_E) (s1 : List Nat) (hk : k ≤ 18), i + k < 19 → hTx G w1 a m s1 → fr a (a + 2) w w1 → (s1 ++ dgl N k).take m = (s ++ dec v).take m → AW G E 8 nx 0 0 w1 67 [(7, .int (nI i)), (5, .long (lN (10 ^ k))), (3, .long (-lN N)), (0, rf G a), (1, .long v)] [] := by
    intro k
    induction k with
    | zero =>
      intro i w1 s1 hk hi h1 hf hr
      have hne : ¬ lN (10 ^ 0) = 0 := by decide
      have g1 := h1.obj
      refine aw_iload (pc := 67) X d_Tx_addNumber_67 (by rfl) ?_
      refine aw_bipushN (pc := 69) X 19 d_Tx_addNumber_69 (by decide) ?_
      refine aw_icmp_geN (pc := 71) X (tgt := 114) d_Tx_addNumber_71 (by rfl) (by omega) (by omega) (fun h71 => ?_) (fun h71 => ?_)
      -- br 71 lv=7:n,5:l,3:l,0:r,1:l st=
      · omega
      · refine aw_lload (pc := 74) X d_Tx_addNumber_74 (by rfl) ?_
        refine aw_lconst (pc := 76) X (v := 0) d_Tx_addNumber_76 (by decide) ?_
        refine aw_lcmp (pc := 77) X d_Tx_addNumber_77 ?_
        refine aw_if_le (pc := 78) X (tgt := 114) d_Tx_addNumber_78 (by rfl) (fun h78 => ?_) (fun h78 => ?_)
        -- br 78 lv=7:n,5:l,3:l,0:r,1:l st=
        · exact absurd h78 (by decide)
        · have ex : -lN N / lN (10 ^ 0) = -lN (N / 10 ^ 0) := mdiv hN (by decide) (by decide)
          have hq : N / 10 ^ 0 ≤ 2 ^ 63 := Nat.le_trans (Nat.div_le_self _ _) hN
          refine aw_aload_nR (pc := 81) X d_Tx_addNumber_81 (by rfl) ?_
          refine aw_ldc2 (pc := 82) X k_642 d_Tx_addNumber_82 ?_
          refine aw_lload_n (pc := 85) X d_Tx_addNumber_85 (by rfl) ?_
          -- stop 86 lv=7:n,5:l,3:l,0:r,1:l st=l,l,r
          refine aw_lload (pc := 86) X d_Tx_addNumber_86 (by rfl) ?_
          refine aw_ldiv (pc := 88) X d_Tx_addNumber_88 hne ?_
          rw [ex]
          refine aw_ldc2 (pc := 89) X k_641 d_Tx_addNumber_89 ?_
          refine aw_lrem (pc := 92) X d_Tx_addNumber_92 (by decide) ?_
          refine aw_lsub (pc := 93) X d_Tx_addNumber_93 ?_
          refine aw_l2i (pc := 94) X d_Tx_addNumber_94 ?_
          -- stop 95 lv=7:n,5:l,3:l,0:r,1:l st=i,r
          rw [mdig hq]
          refine aw_i2cN (pc := 95) X d_Tx_addNumber_95 (by omega) ?_
          -- invokevirtual 96 lv=7:n,5:l,3:l,0:r,1:l st=n,r
          refine aw_callV (pc := 96) X _ (s_Tx_add (d := 0) (a := a) (m := m) (s := s1) ha hm (by omega) h1) q_Tx_add k_639 k_248 k_249 (by omega) g1 (by rfl) d_Tx_addNumber_96 (by omega) (Nat.le_of_ble_eq_true rfl) ⟨by omega, by omega⟩ (fun h => by cases h) (fun r w2 nx2 hp => ?_)
          obtain ⟨rfl, rfl, h2, hf2⟩ := hp
          refine aw_pop (pc := 99) X d_Tx_addNumber_99 (by rfl) ?_
          refine aw_lload (pc := 100) X d_Tx_addNumber_100 (by rfl) ?_
          refine aw_ldc2 (pc := 102) X k_641 d_Tx_addNumber_102 ?_
          -- stop 105 lv=7:n,5:l,3:l,0:r,1:l st=l,l
          refine aw_ldiv (pc := 105) X d_Tx_addNumber_105 (by decide) ?_
          rw [show lN (10 ^ 0) / 10 = 0 by decide]
          refine aw_lstore (pc := 106) X (lv' := [(5, _), (7, _), (3, _), (0, _), (1, _)]) d_Tx_addNumber_106 (by decide) (by rfl) ?_
          refine aw_iincN (pc := 108) X 1 (lv' := [(7, _), (5, _), (3, _), (0, _), (1, _)]) d_Tx_addNumber_108 (by rfl) (by decide) (by decide) (by rfl) ?_
          refine aw_goto (pc := 111) X (tgt := 67) d_Tx_addNumber_111 (by rfl) ?_
          refine aw_iload (pc := 67) X d_Tx_addNumber_67 (by rfl) ?_
          refine aw_bipushN (pc := 69) X 19 d_Tx_addNumber_69 (by decide) ?_
          refine aw_icmp_geN (pc := 71) X (tgt := 114) d_Tx_addNumber_71 (by rfl) (by omega) (by omega) (fun h71 => ?_) (fun h71 => ?_)
          -- br 71 lv=7:n,5:l,3:l,0:r,1:l st=
          · refine aw_vret Y X rfl d_Tx_addNumber_114 (by omega) (by omega) (hP _ _ _ ?_)
            -- ret 114 lv=7:n,5:l,3:l,0:r,1:l st=
            refine ⟨rfl, rfl, ?_, hf.trans hf2⟩
            rw [← hr]
            exact h2
          · refine aw_lload (pc := 74) X d_Tx_addNumber_74 (by rfl) ?_
            refine aw_lconst (pc := 76) X (v := 0) d_Tx_addNumber_76 (by decide) ?_
            refine aw_lcmp (pc := 77) X d_Tx_addNumber_77 ?_
            refine aw_if_le (pc := 78) X (tgt := 114) d_Tx_addNumber_78 (by rfl) (fun h78 => ?_) (fun h78 => ?_)
            -- br 78 lv=7:n,5:l,3:l,0:r,1:l st=
            · refine aw_vret Y X rfl d_Tx_addNumber_114 (by omega) (by omega) (hP _ _ _ ?_)
              -- ret 114 lv=7:n,5:l,3:l,0:r,1:l st=
              refine ⟨rfl, rfl, ?_, hf.trans hf2⟩
              rw [← hr]
              exact h2
            · exact absurd (show lg_cmp 0 0 ≤ 0 by decide) h78
    | succ k ih =>
      intro i w1 s1 hk hi h1 hf hr
      have hlt := hb10 (k + 1) hk
      have hpos := hp10 (k + 1)
      have hne : ¬ lN (10 ^ (k + 1)) = 0 := fun e => by
        have := congrArg Int64.toInt e
        rw [pk_lT hlt] at this
        have e1 : (0 : Int64).toInt = 0 := by decide
        omega
      have hgt : 0 < lN (10 ^ (k + 1)) := (pk_lLT (a := 0) (by decide) hlt).mpr hpos
      have g1 := h1.obj
      refine aw_iload (pc := 67) X d_Tx_addNumber_67 (by rfl) ?_
      refine aw_bipushN (pc := 69) X 19 d_Tx_addNumber_69 (by decide) ?_
      refine aw_icmp_geN (pc := 71) X (tgt := 114) d_Tx_addNumber_71 (by rfl) (by omega) (by omega) (fun h71 => ?_) (fun h71 => ?_)
      -- br 71 lv=7:n,5:l,3:l,0:r,1:l st=
      · omega
      · refine aw_lload (pc := 74) X d_Tx_addNumber_74 (by rfl) ?_
        refine aw_lconst (pc := 76) X (v := 0) d_Tx_addNumber_76 (by decide) ?_
        refine aw_lcmp (pc := 77) X d_Tx_addNumber_77 ?_
        refine aw_if_le (pc := 78) X (tgt := 114) d_Tx_addNumber_78 (by rfl) (fun h78 => ?_) (fun h78 => ?_)
        -- br 78 lv=7:n,5:l,3:l,0:r,1:l st=
        · exact absurd ((lg_gt0 _ _).mpr hgt) (Int32.not_lt.mpr h78)
        · have ex : -lN N / lN (10 ^ (k + 1)) = -lN (N / 10 ^ (k + 1)) := mdiv hN hpos hlt
          have hq : N / 10 ^ (k + 1) ≤ 2 ^ 63 := Nat.le_trans (Nat.div_le_self _ _) hN
          refine aw_aload_nR (pc := 81) X d_Tx_addNumber_81 (by rfl) ?_
          refine aw_ldc2 (pc := 82) X k_642 d_Tx_addNumber_82 ?_
          refine aw_lload_n (pc := 85) X d_Tx_addNumber_85 (by rfl) ?_
          -- stop 86 lv=7:n,5:l,3:l,0:r,1:l st=l,l,r
          refine aw_lload (pc := 86) X d_Tx_addNumber_86 (by rfl) ?_
          refine aw_ldiv (pc := 88) X d_Tx_addNumber_88 hne ?_
          rw [ex]
          refine aw_ldc2 (pc := 89) X k_641 d_Tx_addNumber_89 ?_
          refine aw_lrem (pc := 92) X d_Tx_addNumber_92 (by decide) ?_
          refine aw_lsub (pc := 93) X d_Tx_addNumber_93 ?_
          refine aw_l2i (pc := 94) X d_Tx_addNumber_94 ?_
          -- stop 95 lv=7:n,5:l,3:l,0:r,1:l st=i,r
          rw [mdig hq]
          refine aw_i2cN (pc := 95) X d_Tx_addNumber_95 (by omega) ?_
          -- invokevirtual 96 lv=7:n,5:l,3:l,0:r,1:l st=n,r
          refine aw_callV (pc := 96) X _ (s_Tx_add (d := 0) (a := a) (m := m) (s := s1) ha hm (by omega) h1) q_Tx_add k_639 k_248 k_249 (by omega) g1 (by rfl) d_Tx_addNumber_96 (by omega) (Nat.le_of_ble_eq_true rfl) ⟨by omega, by omega⟩ (fun h => by cases h) (fun r w2 nx2 hp => ?_)
          obtain ⟨rfl, rfl, h2, hf2⟩ := hp
          refine aw_pop (pc := 99) X d_Tx_addNumber_99 (by rfl) ?_
          refine aw_lload (pc := 100) X d_Tx_addNumber_100 (by rfl) ?_
          refine aw_ldc2 (pc := 102) X k_641 d_Tx_addNumber_102 ?_
          -- stop 105 lv=7:n,5:l,3:l,0:r,1:l st=l,l
          refine aw_ldiv (pc := 105) X d_Tx_addNumber_105 (by decide) ?_
          rw [e10, pk_lDiv hlt (by omega) (by omega), show 10 ^ (k + 1) / 10 = 10 ^ k by rw [Nat.pow_succ, Nat.mul_div_cancel _ (by omega)]]
          refine aw_lstore (pc := 106) X (lv' := [(5, _), (7, _), (3, _), (0, _), (1, _)]) d_Tx_addNumber_106 (by decide) (by rfl) ?_
          refine aw_iincN (pc := 108) X 1 (lv' := [(7, _), (5, _), (3, _), (0, _), (1, _)]) d_Tx_addNumber_108 (by rfl) (by decide) (by decide) (by rfl) ?_
          refine aw_goto (pc := 111) X (tgt := 67) d_Tx_addNumber_111 (by rfl) ?_
          -- stop 67 lv=7:n,5:l,3:l,0:r,1:l st=
          refine AW.lsub [0, 1, 2, 3, 4] (by rfl) ?_
          refine ih (i + 1) w2 _ (by omega) (by omega) h2 (hf.trans hf2) ?_
          rw [← hr, take_app, dgl, List.append_assoc]
          rfl
  -- the first loop
  have L1 : ∀ (f k : Nat) (w1 : Nat → va_E) (s1 : List Nat), f + k = 18 → hTx G w1 a m s1 → fr a (a + 2) w w1 → (s1 ++ dgl N (topx N f k)).take m = (s ++ dec v).take m → AW G E 8 nx 0 0 w1 32 [(7, .int (nI (k + 1))), (5, .long (lN (10 ^ k))), (3, .long (-lN N)), (0, rf G a), (1, .long v)] [] := by
    intro f
    induction f with
    | zero =>
      intro k w1 s1 hfk h1 hf hr
      refine aw_iload (pc := 32) X d_Tx_addNumber_32 (by rfl) ?_
      refine aw_bipushN (pc := 34) X 19 d_Tx_addNumber_34 (by decide) ?_
      refine aw_icmp_geN (pc := 36) X (tgt := 64) d_Tx_addNumber_36 (by rfl) (by omega) (by omega) (fun h36 => ?_) (fun h36 => ?_)
      -- br 36 lv=7:n,5:l,3:l,0:r,1:l st=
      · refine aw_iconstN (pc := 64) X 0 d_Tx_addNumber_64 (by decide) ?_
        refine aw_istore (pc := 65) X (lv' := [(7, _), (5, _), (3, _), (0, _), (1, _)]) d_Tx_addNumber_65 (by decide) (by rfl) ?_
        -- stop 67 lv=7:n,5:l,3:l,0:r,1:l st=
        exact L2 k 0 w1 s1 (by omega) (by omega) h1 hf hr
      · omega
    | succ f ih =>
      intro k w1 s1 hfk h1 hf hr
      have hlt := hb10 k (by omega)
      have hpos := hp10 k
      have hne : ¬ lN (10 ^ k) = 0 := fun e => by
        have := congrArg Int64.toInt e
        rw [pk_lT hlt] at this
        have e1 : (0 : Int64).toInt = 0 := by decide
        omega
      have ex : -lN N / lN (10 ^ k) = -lN (N / 10 ^ k) := mdiv hN hpos hlt
      have hq : N / 10 ^ k ≤ 2 ^ 63 := Nat.le_trans (Nat.div_le_self _ _) hN
      have hcmp : (-10 : Int64) < -lN (N / 10 ^ k) ↔ N / 10 ^ k < 10 := by
        rw [Int64.lt_iff_toInt_lt, mT hq]
        have e1 : (-10 : Int64).toInt = -10 := by decide
        omega
      refine aw_iload (pc := 32) X d_Tx_addNumber_32 (by rfl) ?_
      refine aw_bipushN (pc := 34) X 19 d_Tx_addNumber_34 (by decide) ?_
      refine aw_icmp_geN (pc := 36) X (tgt := 64) d_Tx_addNumber_36 (by rfl) (by omega) (by omega) (fun h36 => ?_) (fun h36 => ?_)
      -- br 36 lv=7:n,5:l,3:l,0:r,1:l st=
      · omega
      · refine aw_lload_n (pc := 39) X d_Tx_addNumber_39 (by rfl) ?_
        refine aw_lload (pc := 40) X d_Tx_addNumber_40 (by rfl) ?_
        -- stop 42 lv=7:n,5:l,3:l,0:r,1:l st=l,l
        refine aw_ldiv (pc := 42) X d_Tx_addNumber_42 hne ?_
        rw [ex]
        refine aw_ldc2 (pc := 43) X k_640 d_Tx_addNumber_43 ?_
        refine aw_lcmp (pc := 46) X d_Tx_addNumber_46 ?_
        refine aw_if_gt (pc := 47) X (tgt := 64) d_Tx_addNumber_47 (by rfl) (fun h47 => ?_) (fun h47 => ?_)
        -- br 47 lv=7:n,5:l,3:l,0:r,1:l st=
        · have hq2 := hcmp.mp ((lg_gt0 _ _).mp h47)
          rw [topx, if_pos hq2] at hr
          refine aw_iconstN (pc := 64) X 0 d_Tx_addNumber_64 (by decide) ?_
          refine aw_istore (pc := 65) X (lv' := [(7, _), (5, _), (3, _), (0, _), (1, _)]) d_Tx_addNumber_65 (by decide) (by rfl) ?_
          -- stop 67 lv=7:n,5:l,3:l,0:r,1:l st=
          refine AW.lsub [0, 1, 2, 3, 4] (by rfl) ?_
          exact L2 k 0 w1 s1 (by omega) (by omega) h1 hf hr
        · have hq2 : ¬ N / 10 ^ k < 10 := fun q => h47 ((lg_gt0 _ _).mpr (hcmp.mpr q))
          rw [topx, if_neg hq2] at hr
          refine aw_lload (pc := 50) X d_Tx_addNumber_50 (by rfl) ?_
          refine aw_ldc2 (pc := 52) X k_641 d_Tx_addNumber_52 ?_
          -- stop 55 lv=7:n,5:l,3:l,0:r,1:l st=l,l
          refine aw_lmul (pc := 55) X d_Tx_addNumber_55 ?_
          rw [e10, lN_mul, ← Nat.pow_succ]
          refine aw_lstore (pc := 56) X (lv' := [(5, _), (7, _), (3, _), (0, _), (1, _)]) d_Tx_addNumber_56 (by decide) (by rfl) ?_
          refine aw_iincN (pc := 58) X 1 (lv' := [(7, _), (5, _), (3, _), (0, _), (1, _)]) d_Tx_addNumber_58 (by rfl) (by decide) (by decide) (by rfl) ?_
          refine aw_goto (pc := 61) X (tgt := 32) d_Tx_addNumber_61 (by rfl) ?_
          -- stop 32 lv=7:n,5:l,3:l,0:r,1:l st=
          refine AW.lsub [0, 1, 2, 3, 4] (by rfl) ?_
          exact ih (k + 1) w1 s1 (by omega) h1 hf hr
  have J : ∀ (w1 : Nat → va_E) (s1 : List Nat), hTx G w1 a m s1 → fr a (a + 2) w w1 → (s1 ++ dgl N (topx N 18 0)).take m = (s ++ dec v).take m → AW G E 8 nx 0 0 w1 13 [(0, rf G a), (1, .long v)] [] := by
    intro w1 s1 h1 hf hr
    refine aw_lload_n (pc := 13) X d_Tx_addNumber_13 (by rfl) ?_
    refine aw_lconst (pc := 14) X (v := 0) d_Tx_addNumber_14 (by decide) ?_
    refine aw_lcmp (pc := 15) X d_Tx_addNumber_15 ?_
    refine aw_if_ge (pc := 16) X (tgt := 23) d_Tx_addNumber_16 (by rfl) (fun h16 => ?_) (fun h16 => ?_)
    -- br 16 lv=0:r,1:l st=
    · have hv : ¬ v < 0 := fun q => absurd ((lg_lt0 _ _).mpr q) (Int32.not_lt.mpr h16)
      have hv2 : 0 ≤ v.toInt := by have := Int64.le_iff_toInt_le.mp (Int64.not_lt.mp hv); simpa using this
      have e : -v = -lN N := by
        congr 1
        apply Int64.toInt_inj.mp
        have := Int64.toInt_lt v
        rw [pk_lT (by omega)]
        omega
      refine aw_lload_n (pc := 23) X d_Tx_addNumber_23 (by rfl) ?_
      refine aw_lneg (pc := 24) X d_Tx_addNumber_24 ?_
      -- stop 25 lv=0:r,1:l st=l
      rw [e]
      refine aw_lstore_n (pc := 25) X (lv' := [(3, _), (0, _), (1, _)]) d_Tx_addNumber_25 (by decide) (by rfl) ?_
      refine aw_lconst (pc := 26) X (v := 1) d_Tx_addNumber_26 (by decide) ?_
      refine aw_lstore (pc := 27) X (lv' := [(5, _), (3, _), (0, _), (1, _)]) d_Tx_addNumber_27 (by decide) (by rfl) ?_
      refine aw_iconstN (pc := 29) X 1 d_Tx_addNumber_29 (by decide) ?_
      refine aw_istore (pc := 30) X (lv' := [(7, _), (5, _), (3, _), (0, _), (1, _)]) d_Tx_addNumber_30 (by decide) (by rfl) ?_
      -- stop 32 lv=7:n,5:l,3:l,0:r,1:l st=
      exact L1 18 0 w1 s1 (by omega) h1 hf hr
    · have hv : v < 0 := (lg_lt0 _ _).mp (Int32.not_le.mp h16)
      have hv2 : v.toInt < 0 := by have := Int64.lt_iff_toInt_lt.mp hv; simpa using this
      have e : v = -lN N := by
        apply Int64.toInt_inj.mp
        rw [mT hN]
        omega
      refine aw_lload_n (pc := 19) X d_Tx_addNumber_19 (by rfl) ?_
      refine aw_goto (pc := 20) X (tgt := 25) d_Tx_addNumber_20 (by rfl) ?_
      -- stop 25 lv=0:r,1:l st=l
      refine AW.of rfl rfl rfl rfl rfl (rest' := [.long (-lN N)]) (by rw [← e]) ?_
      refine aw_lstore_n (pc := 25) X (lv' := [(3, _), (0, _), (1, _)]) d_Tx_addNumber_25 (by decide) (by rfl) ?_
      refine aw_lconst (pc := 26) X (v := 1) d_Tx_addNumber_26 (by decide) ?_
      refine aw_lstore (pc := 27) X (lv' := [(5, _), (3, _), (0, _), (1, _)]) d_Tx_addNumber_27 (by decide) (by rfl) ?_
      refine aw_iconstN (pc := 29) X 1 d_Tx_addNumber_29 (by decide) ?_
      refine aw_istore (pc := 30) X (lv' := [(7, _), (5, _), (3, _), (0, _), (1, _)]) d_Tx_addNumber_30 (by decide) (by rfl) ?_
      -- stop 32 lv=7:n,5:l,3:l,0:r,1:l st=
      exact L1 18 0 w1 s1 (by omega) h1 hf hr
  have g1 := h.obj
  refine aw_lload_n (pc := 0) X d_Tx_addNumber_0 (by rfl) ?_
  refine aw_lconst (pc := 1) X (v := 0) d_Tx_addNumber_1 (by decide) ?_
  refine aw_lcmp (pc := 2) X d_Tx_addNumber_2 ?_
  refine aw_if_ge (pc := 3) X (tgt := 13) d_Tx_addNumber_3 (by rfl) (fun h3 => ?_) (fun h3 => ?_)
  -- br 3 lv=0:r,1:l st=
  · have hv : ¬ v < 0 := fun q => absurd ((lg_lt0 _ _).mpr q) (Int32.not_lt.mpr h3)
    exact J w s h (fr.refl _ _ _) (by rw [dec, if_neg hv, hNe]; rfl)
  · have hv : v < 0 := (lg_lt0 _ _).mp (Int32.not_le.mp h3)
    refine aw_aload_nR (pc := 6) X d_Tx_addNumber_6 (by rfl) ?_
    refine aw_bipushN (pc := 7) X 45 d_Tx_addNumber_7 (by decide) ?_
    -- invokevirtual 9 lv=0:r,1:l st=n,r
    refine aw_callV (pc := 9) X _ (s_Tx_add (d := 0) (a := a) (m := m) (s := s) (x := 45) ha hm (by omega) h) q_Tx_add k_639 k_248 k_249 (by omega) g1 (by rfl) d_Tx_addNumber_9 (by omega) (Nat.le_of_ble_eq_true rfl) ⟨by omega, by omega⟩ (fun h => by cases h) (fun r w2 nx2 hp => ?_)
    obtain ⟨rfl, rfl, h2, hf2⟩ := hp
    refine aw_pop (pc := 12) X d_Tx_addNumber_12 (by rfl) ?_
    -- stop 13 lv=0:r,1:l st=
    exact J w2 _ h2 hf2 (by rw [dec, if_pos hv, hNe, take_app, List.append_assoc])
end
end
section
/-! RescanDesk$Expander at 412, its made text at 416: arguments, lists, parameters, bodies -/
def y_Ex_init : MethodName := ⟨"RescanDesk$Expander", "<init>", "(LRescanDesk$Front;LRescanDesk$Rows;LRescanDesk$Table;)V"⟩
abbrev b_Ex_init : ByteArray := prog_7_method_1_code
theorem d_Ex_init_0 : decode b_Ex_init 0 = .ok (.aload_n 0, 1) := by decide +kernel
theorem d_Ex_init_1 : decode b_Ex_init 1 = .ok (.invokespecial 3, 3) := by decide +kernel
theorem d_Ex_init_4 : decode b_Ex_init 4 = .ok (.aload_n 0, 1) := by decide +kernel
theorem d_Ex_init_5 : decode b_Ex_init 5 = .ok (.aload_n 1, 1) := by decide +kernel
theorem d_Ex_init_6 : decode b_Ex_init 6 = .ok (.putfield 9, 3) := by decide +kernel
theorem d_Ex_init_9 : decode b_Ex_init 9 = .ok (.aload_n 0, 1) := by decide +kernel
theorem d_Ex_init_10 : decode b_Ex_init 10 = .ok (.aload_n 2, 1) := by decide +kernel
theorem d_Ex_init_11 : decode b_Ex_init 11 = .ok (.putfield 15, 3) := by decide +kernel
theorem d_Ex_init_14 : decode b_Ex_init 14 = .ok (.aload_n 0, 1) := by decide +kernel
theorem d_Ex_init_15 : decode b_Ex_init 15 = .ok (.aload_n 3, 1) := by decide +kernel
theorem d_Ex_init_16 : decode b_Ex_init 16 = .ok (.putfield 19, 3) := by decide +kernel
theorem d_Ex_init_19 : decode b_Ex_init 19 = .ok (.aload_n 0, 1) := by decide +kernel
theorem d_Ex_init_20 : decode b_Ex_init 20 = .ok (.new 23, 3) := by decide +kernel
theorem d_Ex_init_23 : decode b_Ex_init 23 = .ok (.dup, 1) := by decide +kernel
theorem d_Ex_init_24 : decode b_Ex_init 24 = .ok (.invokespecial 25, 3) := by decide +kernel
theorem d_Ex_init_27 : decode b_Ex_init 27 = .ok (.putfield 26, 3) := by decide +kernel
theorem d_Ex_init_30 : decode b_Ex_init 30 = .ok (.aload_n 0, 1) := by decide +kernel
theorem d_Ex_init_31 : decode b_Ex_init 31 = .ok (.new 30, 3) := by decide +kernel
theorem d_Ex_init_34 : decode b_Ex_init 34 = .ok (.dup, 1) := by decide +kernel
theorem d_Ex_init_35 : decode b_Ex_init 35 = .ok (.sipush 601, 3) := by decide +kernel
theorem d_Ex_init_38 : decode b_Ex_init 38 = .ok (.invokespecial 32, 3) := by decide +kernel
theorem d_Ex_init_41 : decode b_Ex_init 41 = .ok (.putfield 35, 3) := by decide +kernel
theorem d_Ex_init_44 : decode b_Ex_init 44 = .ok (.return_, 1) := by decide +kernel
theorem q_Ex_init : aw_q1 y_Ex_init b_Ex_init 4 none 3 := ⟨k_331, k_77, ⟨by decide, by decide, by decide +kernel⟩, by decide⟩
def y_Ex_expand : MethodName := ⟨"RescanDesk$Expander", "expand", "(LRescanDesk$Call;)I"⟩
abbrev b_Ex_expand : ByteArray := prog_7_method_2_code
theorem d_Ex_expand_0 : decode b_Ex_expand 0 = .ok (.aload_n 0, 1) := by decide +kernel
theorem d_Ex_expand_1 : decode b_Ex_expand 1 = .ok (.getfield 35, 3) := by decide +kernel
theorem d_Ex_expand_4 : decode b_Ex_expand 4 = .ok (.invokevirtual 39, 3) := by decide +kernel
theorem d_Ex_expand_7 : decode b_Ex_expand 7 = .ok (.aload_n 1, 1) := by decide +kernel
theorem d_Ex_expand_8 : decode b_Ex_expand 8 = .ok (.getfield 42, 3) := by decide +kernel
theorem d_Ex_expand_11 : decode b_Ex_expand 11 = .ok (.getfield 48, 3) := by decide +kernel
theorem d_Ex_expand_14 : decode b_Ex_expand 14 = .ok (.astore_n 2, 1) := by decide +kernel
theorem d_Ex_expand_15 : decode b_Ex_expand 15 = .ok (.aload_n 2, 1) := by decide +kernel
theorem d_Ex_expand_16 : decode b_Ex_expand 16 = .ok (.ifnonnull 11, 3) := by decide +kernel
theorem d_Ex_expand_19 : decode b_Ex_expand 19 = .ok (.aload_n 0, 1) := by decide +kernel
theorem d_Ex_expand_20 : decode b_Ex_expand 20 = .ok (.aload_n 1, 1) := by decide +kernel
theorem d_Ex_expand_21 : decode b_Ex_expand 21 = .ok (.invokevirtual 54, 3) := by decide +kernel
theorem d_Ex_expand_24 : decode b_Ex_expand 24 = .ok (.goto 22, 3) := by decide +kernel
theorem d_Ex_expand_27 : decode b_Ex_expand 27 = .ok (.aload_n 0, 1) := by decide +kernel
theorem d_Ex_expand_28 : decode b_Ex_expand 28 = .ok (.aload_n 1, 1) := by decide +kernel
theorem d_Ex_expand_29 : decode b_Ex_expand 29 = .ok (.aload_n 2, 1) := by decide +kernel
theorem d_Ex_expand_30 : decode b_Ex_expand 30 = .ok (.invokevirtual 58, 3) := by decide +kernel
theorem d_Ex_expand_33 : decode b_Ex_expand 33 = .ok (.istore_n 3, 1) := by decide +kernel
theorem d_Ex_expand_34 : decode b_Ex_expand 34 = .ok (.iload_n 3, 1) := by decide +kernel
theorem d_Ex_expand_35 : decode b_Ex_expand 35 = .ok (.ifCond .eq 5, 3) := by decide +kernel
theorem d_Ex_expand_38 : decode b_Ex_expand 38 = .ok (.iload_n 3, 1) := by decide +kernel
theorem d_Ex_expand_39 : decode b_Ex_expand 39 = .ok (.ireturn, 1) := by decide +kernel
theorem d_Ex_expand_40 : decode b_Ex_expand 40 = .ok (.aload_n 0, 1) := by decide +kernel
theorem d_Ex_expand_41 : decode b_Ex_expand 41 = .ok (.aload_n 1, 1) := by decide +kernel
theorem d_Ex_expand_42 : decode b_Ex_expand 42 = .ok (.aload_n 2, 1) := by decide +kernel
theorem d_Ex_expand_43 : decode b_Ex_expand 43 = .ok (.invokevirtual 62, 3) := by decide +kernel
theorem d_Ex_expand_46 : decode b_Ex_expand 46 = .ok (.aload_n 0, 1) := by decide +kernel
theorem d_Ex_expand_47 : decode b_Ex_expand 47 = .ok (.getfield 9, 3) := by decide +kernel
theorem d_Ex_expand_50 : decode b_Ex_expand 50 = .ok (.aload_n 0, 1) := by decide +kernel
theorem d_Ex_expand_51 : decode b_Ex_expand 51 = .ok (.getfield 35, 3) := by decide +kernel
theorem d_Ex_expand_54 : decode b_Ex_expand 54 = .ok (.invokevirtual 66, 3) := by decide +kernel
theorem d_Ex_expand_57 : decode b_Ex_expand 57 = .ok (.ifCond .eq 7, 3) := by decide +kernel
theorem d_Ex_expand_60 : decode b_Ex_expand 60 = .ok (.iconst 0, 1) := by decide +kernel
theorem d_Ex_expand_61 : decode b_Ex_expand 61 = .ok (.goto 4, 3) := by decide +kernel
theorem d_Ex_expand_64 : decode b_Ex_expand 64 = .ok (.iconst 2, 1) := by decide +kernel
theorem d_Ex_expand_65 : decode b_Ex_expand 65 = .ok (.ireturn, 1) := by decide +kernel
theorem q_Ex_expand : aw_q1 y_Ex_expand b_Ex_expand 4 (some .int) 1 := ⟨k_611, k_77, ⟨by decide, by decide, by decide +kernel⟩, by decide⟩
def y_Ex_makeBody : MethodName := ⟨"RescanDesk$Expander", "makeBody", "(LRescanDesk$Call;)V"⟩
abbrev b_Ex_makeBody : ByteArray := prog_7_method_3_code
theorem d_Ex_makeBody_0 : decode b_Ex_makeBody 0 = .ok (.aload_n 1, 1) := by decide +kernel
theorem d_Ex_makeBody_1 : decode b_Ex_makeBody 1 = .ok (.getfield 42, 3) := by decide +kernel
theorem d_Ex_makeBody_4 : decode b_Ex_makeBody 4 = .ok (.getfield 72, 3) := by decide +kernel
theorem d_Ex_makeBody_7 : decode b_Ex_makeBody 7 = .ok (.astore_n 2, 1) := by decide +kernel
theorem d_Ex_makeBody_8 : decode b_Ex_makeBody 8 = .ok (.iconst 0, 1) := by decide +kernel
theorem d_Ex_makeBody_9 : decode b_Ex_makeBody 9 = .ok (.istore_n 3, 1) := by decide +kernel
theorem d_Ex_makeBody_10 : decode b_Ex_makeBody 10 = .ok (.iload_n 3, 1) := by decide +kernel
theorem d_Ex_makeBody_11 : decode b_Ex_makeBody 11 = .ok (.aload_n 2, 1) := by decide +kernel
theorem d_Ex_makeBody_12 : decode b_Ex_makeBody 12 = .ok (.getfield 75, 3) := by decide +kernel
theorem d_Ex_makeBody_15 : decode b_Ex_makeBody 15 = .ok (.if_icmp .ge 82, 3) := by decide +kernel
theorem d_Ex_makeBody_18 : decode b_Ex_makeBody 18 = .ok (.aload_n 2, 1) := by decide +kernel
theorem d_Ex_makeBody_19 : decode b_Ex_makeBody 19 = .ok (.getfield 79, 3) := by decide +kernel
theorem d_Ex_makeBody_22 : decode b_Ex_makeBody 22 = .ok (.iload_n 3, 1) := by decide +kernel
theorem d_Ex_makeBody_23 : decode b_Ex_makeBody 23 = .ok (.caload, 1) := by decide +kernel
theorem d_Ex_makeBody_24 : decode b_Ex_makeBody 24 = .ok (.bipush 36, 2) := by decide +kernel
theorem d_Ex_makeBody_26 : decode b_Ex_makeBody 26 = .ok (.if_icmp .ne 33, 3) := by decide +kernel
theorem d_Ex_makeBody_29 : decode b_Ex_makeBody 29 = .ok (.iload_n 3, 1) := by decide +kernel
theorem d_Ex_makeBody_30 : decode b_Ex_makeBody 30 = .ok (.iconst 1, 1) := by decide +kernel
theorem d_Ex_makeBody_31 : decode b_Ex_makeBody 31 = .ok (.iadd, 1) := by decide +kernel
theorem d_Ex_makeBody_32 : decode b_Ex_makeBody 32 = .ok (.aload_n 2, 1) := by decide +kernel
theorem d_Ex_makeBody_33 : decode b_Ex_makeBody 33 = .ok (.getfield 75, 3) := by decide +kernel
theorem d_Ex_makeBody_36 : decode b_Ex_makeBody 36 = .ok (.if_icmp .ge 23, 3) := by decide +kernel
theorem d_Ex_makeBody_39 : decode b_Ex_makeBody 39 = .ok (.aload_n 0, 1) := by decide +kernel
theorem d_Ex_makeBody_40 : decode b_Ex_makeBody 40 = .ok (.aload_n 1, 1) := by decide +kernel
theorem d_Ex_makeBody_41 : decode b_Ex_makeBody 41 = .ok (.aload_n 2, 1) := by decide +kernel
theorem d_Ex_makeBody_42 : decode b_Ex_makeBody 42 = .ok (.getfield 79, 3) := by decide +kernel
theorem d_Ex_makeBody_45 : decode b_Ex_makeBody 45 = .ok (.iload_n 3, 1) := by decide +kernel
theorem d_Ex_makeBody_46 : decode b_Ex_makeBody 46 = .ok (.iconst 1, 1) := by decide +kernel
theorem d_Ex_makeBody_47 : decode b_Ex_makeBody 47 = .ok (.iadd, 1) := by decide +kernel
theorem d_Ex_makeBody_48 : decode b_Ex_makeBody 48 = .ok (.caload, 1) := by decide +kernel
theorem d_Ex_makeBody_49 : decode b_Ex_makeBody 49 = .ok (.invokevirtual 83, 3) := by decide +kernel
theorem d_Ex_makeBody_52 : decode b_Ex_makeBody 52 = .ok (.ifCond .eq 7, 3) := by decide +kernel
theorem d_Ex_makeBody_55 : decode b_Ex_makeBody 55 = .ok (.iconst 1, 1) := by decide +kernel
theorem d_Ex_makeBody_56 : decode b_Ex_makeBody 56 = .ok (.goto 4, 3) := by decide +kernel
theorem d_Ex_makeBody_59 : decode b_Ex_makeBody 59 = .ok (.iconst 0, 1) := by decide +kernel
theorem d_Ex_makeBody_60 : decode b_Ex_makeBody 60 = .ok (.istore 4, 2) := by decide +kernel
theorem d_Ex_makeBody_62 : decode b_Ex_makeBody 62 = .ok (.iload 4, 2) := by decide +kernel
theorem d_Ex_makeBody_64 : decode b_Ex_makeBody 64 = .ok (.ifCond .ne 17, 3) := by decide +kernel
theorem d_Ex_makeBody_67 : decode b_Ex_makeBody 67 = .ok (.aload_n 0, 1) := by decide +kernel
theorem d_Ex_makeBody_68 : decode b_Ex_makeBody 68 = .ok (.getfield 35, 3) := by decide +kernel
theorem d_Ex_makeBody_71 : decode b_Ex_makeBody 71 = .ok (.aload_n 2, 1) := by decide +kernel
theorem d_Ex_makeBody_72 : decode b_Ex_makeBody 72 = .ok (.getfield 79, 3) := by decide +kernel
theorem d_Ex_makeBody_75 : decode b_Ex_makeBody 75 = .ok (.iload_n 3, 1) := by decide +kernel
theorem d_Ex_makeBody_76 : decode b_Ex_makeBody 76 = .ok (.caload, 1) := by decide +kernel
theorem d_Ex_makeBody_77 : decode b_Ex_makeBody 77 = .ok (.invokevirtual 87, 3) := by decide +kernel
theorem d_Ex_makeBody_80 : decode b_Ex_makeBody 80 = .ok (.pop, 1) := by decide +kernel
theorem d_Ex_makeBody_81 : decode b_Ex_makeBody 81 = .ok (.iload_n 3, 1) := by decide +kernel
theorem d_Ex_makeBody_82 : decode b_Ex_makeBody 82 = .ok (.iload 4, 2) := by decide +kernel
theorem d_Ex_makeBody_84 : decode b_Ex_makeBody 84 = .ok (.ifCond .eq 7, 3) := by decide +kernel
theorem d_Ex_makeBody_87 : decode b_Ex_makeBody 87 = .ok (.iconst 2, 1) := by decide +kernel
theorem d_Ex_makeBody_88 : decode b_Ex_makeBody 88 = .ok (.goto 4, 3) := by decide +kernel
theorem d_Ex_makeBody_91 : decode b_Ex_makeBody 91 = .ok (.iconst 1, 1) := by decide +kernel
theorem d_Ex_makeBody_92 : decode b_Ex_makeBody 92 = .ok (.iadd, 1) := by decide +kernel
theorem d_Ex_makeBody_93 : decode b_Ex_makeBody 93 = .ok (.istore_n 3, 1) := by decide +kernel
theorem d_Ex_makeBody_94 : decode b_Ex_makeBody 94 = .ok (.goto (-84), 3) := by decide +kernel
theorem d_Ex_makeBody_97 : decode b_Ex_makeBody 97 = .ok (.return_, 1) := by decide +kernel
theorem q_Ex_makeBody : aw_q1 y_Ex_makeBody b_Ex_makeBody 5 none 1 := ⟨k_616, k_77, ⟨by decide, by decide, by decide +kernel⟩, by decide⟩
def y_Ex_makeParameter : MethodName := ⟨"RescanDesk$Expander", "makeParameter", "(LRescanDesk$Call;C)Z"⟩
abbrev b_Ex_makeParameter : ByteArray := prog_7_method_4_code
theorem d_Ex_makeParameter_0 : decode b_Ex_makeParameter 0 = .ok (.iload_n 2, 1) := by decide +kernel
theorem d_Ex_makeParameter_1 : decode b_Ex_makeParameter 1 = .ok (.bipush 48, 2) := by decide +kernel
theorem d_Ex_makeParameter_3 : decode b_Ex_makeParameter 3 = .ok (.if_icmp .ne 31, 3) := by decide +kernel
theorem d_Ex_makeParameter_6 : decode b_Ex_makeParameter 6 = .ok (.aload_n 1, 1) := by decide +kernel
theorem d_Ex_makeParameter_7 : decode b_Ex_makeParameter 7 = .ok (.getfield 42, 3) := by decide +kernel
theorem d_Ex_makeParameter_10 : decode b_Ex_makeParameter 10 = .ok (.getfield 91, 3) := by decide +kernel
theorem d_Ex_makeParameter_13 : decode b_Ex_makeParameter 13 = .ok (.astore_n 3, 1) := by decide +kernel
theorem d_Ex_makeParameter_14 : decode b_Ex_makeParameter 14 = .ok (.aload_n 0, 1) := by decide +kernel
theorem d_Ex_makeParameter_15 : decode b_Ex_makeParameter 15 = .ok (.getfield 35, 3) := by decide +kernel
theorem d_Ex_makeParameter_18 : decode b_Ex_makeParameter 18 = .ok (.aload_n 3, 1) := by decide +kernel
theorem d_Ex_makeParameter_19 : decode b_Ex_makeParameter 19 = .ok (.getfield 79, 3) := by decide +kernel
theorem d_Ex_makeParameter_22 : decode b_Ex_makeParameter 22 = .ok (.iconst 0, 1) := by decide +kernel
theorem d_Ex_makeParameter_23 : decode b_Ex_makeParameter 23 = .ok (.aload_n 3, 1) := by decide +kernel
theorem d_Ex_makeParameter_24 : decode b_Ex_makeParameter 24 = .ok (.getfield 75, 3) := by decide +kernel
theorem d_Ex_makeParameter_27 : decode b_Ex_makeParameter 27 = .ok (.invokevirtual 94, 3) := by decide +kernel
theorem d_Ex_makeParameter_30 : decode b_Ex_makeParameter 30 = .ok (.pop, 1) := by decide +kernel
theorem d_Ex_makeParameter_31 : decode b_Ex_makeParameter 31 = .ok (.goto 77, 3) := by decide +kernel
theorem d_Ex_makeParameter_34 : decode b_Ex_makeParameter 34 = .ok (.iload_n 2, 1) := by decide +kernel
theorem d_Ex_makeParameter_35 : decode b_Ex_makeParameter 35 = .ok (.invokestatic 98, 3) := by decide +kernel
theorem d_Ex_makeParameter_38 : decode b_Ex_makeParameter 38 = .ok (.ifCond .eq 15, 3) := by decide +kernel
theorem d_Ex_makeParameter_41 : decode b_Ex_makeParameter 41 = .ok (.aload_n 0, 1) := by decide +kernel
theorem d_Ex_makeParameter_42 : decode b_Ex_makeParameter 42 = .ok (.aload_n 1, 1) := by decide +kernel
theorem d_Ex_makeParameter_43 : decode b_Ex_makeParameter 43 = .ok (.iload_n 2, 1) := by decide +kernel
theorem d_Ex_makeParameter_44 : decode b_Ex_makeParameter 44 = .ok (.bipush 48, 2) := by decide +kernel
theorem d_Ex_makeParameter_46 : decode b_Ex_makeParameter 46 = .ok (.isub, 1) := by decide +kernel
theorem d_Ex_makeParameter_47 : decode b_Ex_makeParameter 47 = .ok (.invokevirtual 101, 3) := by decide +kernel
theorem d_Ex_makeParameter_50 : decode b_Ex_makeParameter 50 = .ok (.goto 58, 3) := by decide +kernel
theorem d_Ex_makeParameter_53 : decode b_Ex_makeParameter 53 = .ok (.iload_n 2, 1) := by decide +kernel
theorem d_Ex_makeParameter_54 : decode b_Ex_makeParameter 54 = .ok (.bipush 35, 2) := by decide +kernel
theorem d_Ex_makeParameter_56 : decode b_Ex_makeParameter 56 = .ok (.if_icmp .ne 18, 3) := by decide +kernel
theorem d_Ex_makeParameter_59 : decode b_Ex_makeParameter 59 = .ok (.aload_n 0, 1) := by decide +kernel
theorem d_Ex_makeParameter_60 : decode b_Ex_makeParameter 60 = .ok (.getfield 35, 3) := by decide +kernel
theorem d_Ex_makeParameter_63 : decode b_Ex_makeParameter 63 = .ok (.aload_n 1, 1) := by decide +kernel
theorem d_Ex_makeParameter_64 : decode b_Ex_makeParameter 64 = .ok (.getfield 105, 3) := by decide +kernel
theorem d_Ex_makeParameter_67 : decode b_Ex_makeParameter 67 = .ok (.i2l, 1) := by decide +kernel
theorem d_Ex_makeParameter_68 : decode b_Ex_makeParameter 68 = .ok (.invokevirtual 108, 3) := by decide +kernel
theorem d_Ex_makeParameter_71 : decode b_Ex_makeParameter 71 = .ok (.goto 37, 3) := by decide +kernel
theorem d_Ex_makeParameter_74 : decode b_Ex_makeParameter 74 = .ok (.iload_n 2, 1) := by decide +kernel
theorem d_Ex_makeParameter_75 : decode b_Ex_makeParameter 75 = .ok (.bipush 42, 2) := by decide +kernel
theorem d_Ex_makeParameter_77 : decode b_Ex_makeParameter 77 = .ok (.if_icmp .ne 13, 3) := by decide +kernel
theorem d_Ex_makeParameter_80 : decode b_Ex_makeParameter 80 = .ok (.aload_n 0, 1) := by decide +kernel
theorem d_Ex_makeParameter_81 : decode b_Ex_makeParameter 81 = .ok (.aload_n 1, 1) := by decide +kernel
theorem d_Ex_makeParameter_82 : decode b_Ex_makeParameter 82 = .ok (.iconst 1, 1) := by decide +kernel
theorem d_Ex_makeParameter_83 : decode b_Ex_makeParameter 83 = .ok (.iconst 0, 1) := by decide +kernel
theorem d_Ex_makeParameter_84 : decode b_Ex_makeParameter 84 = .ok (.invokevirtual 112, 3) := by decide +kernel
theorem d_Ex_makeParameter_87 : decode b_Ex_makeParameter 87 = .ok (.goto 21, 3) := by decide +kernel
theorem d_Ex_makeParameter_90 : decode b_Ex_makeParameter 90 = .ok (.iload_n 2, 1) := by decide +kernel
theorem d_Ex_makeParameter_91 : decode b_Ex_makeParameter 91 = .ok (.bipush 64, 2) := by decide +kernel
theorem d_Ex_makeParameter_93 : decode b_Ex_makeParameter 93 = .ok (.if_icmp .ne 13, 3) := by decide +kernel
theorem d_Ex_makeParameter_96 : decode b_Ex_makeParameter 96 = .ok (.aload_n 0, 1) := by decide +kernel
theorem d_Ex_makeParameter_97 : decode b_Ex_makeParameter 97 = .ok (.aload_n 1, 1) := by decide +kernel
theorem d_Ex_makeParameter_98 : decode b_Ex_makeParameter 98 = .ok (.iconst 1, 1) := by decide +kernel
theorem d_Ex_makeParameter_99 : decode b_Ex_makeParameter 99 = .ok (.iconst 1, 1) := by decide +kernel
theorem d_Ex_makeParameter_100 : decode b_Ex_makeParameter 100 = .ok (.invokevirtual 112, 3) := by decide +kernel
theorem d_Ex_makeParameter_103 : decode b_Ex_makeParameter 103 = .ok (.goto 5, 3) := by decide +kernel
theorem d_Ex_makeParameter_106 : decode b_Ex_makeParameter 106 = .ok (.iconst 0, 1) := by decide +kernel
theorem d_Ex_makeParameter_107 : decode b_Ex_makeParameter 107 = .ok (.ireturn, 1) := by decide +kernel
theorem d_Ex_makeParameter_108 : decode b_Ex_makeParameter 108 = .ok (.iconst 1, 1) := by decide +kernel
theorem d_Ex_makeParameter_109 : decode b_Ex_makeParameter 109 = .ok (.ireturn, 1) := by decide +kernel
theorem q_Ex_makeParameter : aw_q1 y_Ex_makeParameter b_Ex_makeParameter 4 (some .boolean) 2 := ⟨k_620, k_77, ⟨by decide, by decide, by decide +kernel⟩, by decide⟩
def y_Ex_makeArgument : MethodName := ⟨"RescanDesk$Expander", "makeArgument", "(LRescanDesk$Call;I)V"⟩
abbrev b_Ex_makeArgument : ByteArray := prog_7_method_5_code
theorem d_Ex_makeArgument_0 : decode b_Ex_makeArgument 0 = .ok (.aload_n 0, 1) := by decide +kernel
theorem d_Ex_makeArgument_1 : decode b_Ex_makeArgument 1 = .ok (.getfield 35, 3) := by decide +kernel
theorem d_Ex_makeArgument_4 : decode b_Ex_makeArgument 4 = .ok (.aload_n 1, 1) := by decide +kernel
theorem d_Ex_makeArgument_5 : decode b_Ex_makeArgument 5 = .ok (.getfield 116, 3) := by decide +kernel
theorem d_Ex_makeArgument_8 : decode b_Ex_makeArgument 8 = .ok (.aload_n 1, 1) := by decide +kernel
theorem d_Ex_makeArgument_9 : decode b_Ex_makeArgument 9 = .ok (.iload_n 2, 1) := by decide +kernel
theorem d_Ex_makeArgument_10 : decode b_Ex_makeArgument 10 = .ok (.invokevirtual 117, 3) := by decide +kernel
theorem d_Ex_makeArgument_13 : decode b_Ex_makeArgument 13 = .ok (.aload_n 1, 1) := by decide +kernel
theorem d_Ex_makeArgument_14 : decode b_Ex_makeArgument 14 = .ok (.iload_n 2, 1) := by decide +kernel
theorem d_Ex_makeArgument_15 : decode b_Ex_makeArgument 15 = .ok (.invokevirtual 121, 3) := by decide +kernel
theorem d_Ex_makeArgument_18 : decode b_Ex_makeArgument 18 = .ok (.invokevirtual 94, 3) := by decide +kernel
theorem d_Ex_makeArgument_21 : decode b_Ex_makeArgument 21 = .ok (.pop, 1) := by decide +kernel
theorem d_Ex_makeArgument_22 : decode b_Ex_makeArgument 22 = .ok (.return_, 1) := by decide +kernel
theorem q_Ex_makeArgument : aw_q1 y_Ex_makeArgument b_Ex_makeArgument 3 none 2 := ⟨k_626, k_77, ⟨by decide, by decide, by decide +kernel⟩, by decide⟩
def y_Ex_makeList : MethodName := ⟨"RescanDesk$Expander", "makeList", "(LRescanDesk$Call;IZ)V"⟩
abbrev b_Ex_makeList : ByteArray := prog_7_method_6_code
theorem d_Ex_makeList_0 : decode b_Ex_makeList 0 = .ok (.iload_n 2, 1) := by decide +kernel
theorem d_Ex_makeList_1 : decode b_Ex_makeList 1 = .ok (.istore 4, 2) := by decide +kernel
theorem d_Ex_makeList_3 : decode b_Ex_makeList 3 = .ok (.iload 4, 2) := by decide +kernel
theorem d_Ex_makeList_5 : decode b_Ex_makeList 5 = .ok (.aload_n 1, 1) := by decide +kernel
theorem d_Ex_makeList_6 : decode b_Ex_makeList 6 = .ok (.getfield 105, 3) := by decide +kernel
theorem d_Ex_makeList_9 : decode b_Ex_makeList 9 = .ok (.if_icmp .gt 60, 3) := by decide +kernel
theorem d_Ex_makeList_12 : decode b_Ex_makeList 12 = .ok (.iload 4, 2) := by decide +kernel
theorem d_Ex_makeList_14 : decode b_Ex_makeList 14 = .ok (.iload_n 2, 1) := by decide +kernel
theorem d_Ex_makeList_15 : decode b_Ex_makeList 15 = .ok (.if_icmp .le 13, 3) := by decide +kernel
theorem d_Ex_makeList_18 : decode b_Ex_makeList 18 = .ok (.aload_n 0, 1) := by decide +kernel
theorem d_Ex_makeList_19 : decode b_Ex_makeList 19 = .ok (.getfield 35, 3) := by decide +kernel
theorem d_Ex_makeList_22 : decode b_Ex_makeList 22 = .ok (.bipush 44, 2) := by decide +kernel
theorem d_Ex_makeList_24 : decode b_Ex_makeList 24 = .ok (.invokevirtual 87, 3) := by decide +kernel
theorem d_Ex_makeList_27 : decode b_Ex_makeList 27 = .ok (.pop, 1) := by decide +kernel
theorem d_Ex_makeList_28 : decode b_Ex_makeList 28 = .ok (.iload_n 3, 1) := by decide +kernel
theorem d_Ex_makeList_29 : decode b_Ex_makeList 29 = .ok (.ifCond .eq 13, 3) := by decide +kernel
theorem d_Ex_makeList_32 : decode b_Ex_makeList 32 = .ok (.aload_n 0, 1) := by decide +kernel
theorem d_Ex_makeList_33 : decode b_Ex_makeList 33 = .ok (.getfield 35, 3) := by decide +kernel
theorem d_Ex_makeList_36 : decode b_Ex_makeList 36 = .ok (.bipush 96, 2) := by decide +kernel
theorem d_Ex_makeList_38 : decode b_Ex_makeList 38 = .ok (.invokevirtual 87, 3) := by decide +kernel
theorem d_Ex_makeList_41 : decode b_Ex_makeList 41 = .ok (.pop, 1) := by decide +kernel
theorem d_Ex_makeList_42 : decode b_Ex_makeList 42 = .ok (.aload_n 0, 1) := by decide +kernel
theorem d_Ex_makeList_43 : decode b_Ex_makeList 43 = .ok (.aload_n 1, 1) := by decide +kernel
theorem d_Ex_makeList_44 : decode b_Ex_makeList 44 = .ok (.iload 4, 2) := by decide +kernel
theorem d_Ex_makeList_46 : decode b_Ex_makeList 46 = .ok (.invokevirtual 101, 3) := by decide +kernel
theorem d_Ex_makeList_49 : decode b_Ex_makeList 49 = .ok (.iload_n 3, 1) := by decide +kernel
theorem d_Ex_makeList_50 : decode b_Ex_makeList 50 = .ok (.ifCond .eq 13, 3) := by decide +kernel
theorem d_Ex_makeList_53 : decode b_Ex_makeList 53 = .ok (.aload_n 0, 1) := by decide +kernel
theorem d_Ex_makeList_54 : decode b_Ex_makeList 54 = .ok (.getfield 35, 3) := by decide +kernel
theorem d_Ex_makeList_57 : decode b_Ex_makeList 57 = .ok (.bipush 39, 2) := by decide +kernel
theorem d_Ex_makeList_59 : decode b_Ex_makeList 59 = .ok (.invokevirtual 87, 3) := by decide +kernel
theorem d_Ex_makeList_62 : decode b_Ex_makeList 62 = .ok (.pop, 1) := by decide +kernel
theorem d_Ex_makeList_63 : decode b_Ex_makeList 63 = .ok (.iinc 4 1, 3) := by decide +kernel
theorem d_Ex_makeList_66 : decode b_Ex_makeList 66 = .ok (.goto (-63), 3) := by decide +kernel
theorem d_Ex_makeList_69 : decode b_Ex_makeList 69 = .ok (.return_, 1) := by decide +kernel
theorem q_Ex_makeList : aw_q1 y_Ex_makeList b_Ex_makeList 5 none 3 := ⟨k_646, k_77, ⟨by decide, by decide, by decide +kernel⟩, by decide⟩
def y_Ex_act : MethodName := ⟨"RescanDesk$Expander", "act", "(LRescanDesk$Call;LRescanDesk$BuiltIn;)I"⟩
abbrev b_Ex_act : ByteArray := prog_7_method_7_code
theorem d_Ex_act_0 : decode b_Ex_act 0 = .ok (.getstatic 124, 3) := by decide +kernel
theorem d_Ex_act_3 : decode b_Ex_act 3 = .ok (.aload_n 2, 1) := by decide +kernel
theorem d_Ex_act_4 : decode b_Ex_act 4 = .ok (.invokevirtual 130, 3) := by decide +kernel
theorem d_Ex_act_7 : decode b_Ex_act 7 = .ok (.iaload, 1) := by decide +kernel
theorem d_Ex_act_8 : decode b_Ex_act 8 = .ok (.tableswitch 163 1 8 #[48, 55, 62, 85, 108, 122, 128, 137], 48) := by decide +kernel
theorem d_Ex_act_56 : decode b_Ex_act 56 = .ok (.aload_n 0, 1) := by decide +kernel
theorem d_Ex_act_57 : decode b_Ex_act 57 = .ok (.aload_n 1, 1) := by decide +kernel
theorem d_Ex_act_58 : decode b_Ex_act 58 = .ok (.iconst 0, 1) := by decide +kernel
theorem d_Ex_act_59 : decode b_Ex_act 59 = .ok (.invokevirtual 136, 3) := by decide +kernel
theorem d_Ex_act_62 : decode b_Ex_act 62 = .ok (.ireturn, 1) := by decide +kernel
theorem d_Ex_act_63 : decode b_Ex_act 63 = .ok (.aload_n 0, 1) := by decide +kernel
theorem d_Ex_act_64 : decode b_Ex_act 64 = .ok (.aload_n 1, 1) := by decide +kernel
theorem d_Ex_act_65 : decode b_Ex_act 65 = .ok (.iconst 1, 1) := by decide +kernel
theorem d_Ex_act_66 : decode b_Ex_act 66 = .ok (.invokevirtual 136, 3) := by decide +kernel
theorem d_Ex_act_69 : decode b_Ex_act 69 = .ok (.ireturn, 1) := by decide +kernel
theorem d_Ex_act_70 : decode b_Ex_act 70 = .ok (.aload_n 0, 1) := by decide +kernel
theorem d_Ex_act_71 : decode b_Ex_act 71 = .ok (.getfield 19, 3) := by decide +kernel
theorem d_Ex_act_74 : decode b_Ex_act 74 = .ok (.aload_n 1, 1) := by decide +kernel
theorem d_Ex_act_75 : decode b_Ex_act 75 = .ok (.getfield 116, 3) := by decide +kernel
theorem d_Ex_act_78 : decode b_Ex_act 78 = .ok (.aload_n 1, 1) := by decide +kernel
theorem d_Ex_act_79 : decode b_Ex_act 79 = .ok (.iconst 1, 1) := by decide +kernel
theorem d_Ex_act_80 : decode b_Ex_act 80 = .ok (.invokevirtual 117, 3) := by decide +kernel
theorem d_Ex_act_83 : decode b_Ex_act 83 = .ok (.aload_n 1, 1) := by decide +kernel
theorem d_Ex_act_84 : decode b_Ex_act 84 = .ok (.iconst 1, 1) := by decide +kernel
theorem d_Ex_act_85 : decode b_Ex_act 85 = .ok (.invokevirtual 121, 3) := by decide +kernel
theorem d_Ex_act_88 : decode b_Ex_act 88 = .ok (.invokevirtual 140, 3) := by decide +kernel
theorem d_Ex_act_91 : decode b_Ex_act 91 = .ok (.iconst 0, 1) := by decide +kernel
theorem d_Ex_act_92 : decode b_Ex_act 92 = .ok (.ireturn, 1) := by decide +kernel
theorem d_Ex_act_93 : decode b_Ex_act 93 = .ok (.aload_n 0, 1) := by decide +kernel
theorem d_Ex_act_94 : decode b_Ex_act 94 = .ok (.getfield 19, 3) := by decide +kernel
theorem d_Ex_act_97 : decode b_Ex_act 97 = .ok (.aload_n 1, 1) := by decide +kernel
theorem d_Ex_act_98 : decode b_Ex_act 98 = .ok (.getfield 116, 3) := by decide +kernel
theorem d_Ex_act_101 : decode b_Ex_act 101 = .ok (.aload_n 1, 1) := by decide +kernel
theorem d_Ex_act_102 : decode b_Ex_act 102 = .ok (.iconst 1, 1) := by decide +kernel
theorem d_Ex_act_103 : decode b_Ex_act 103 = .ok (.invokevirtual 117, 3) := by decide +kernel
theorem d_Ex_act_106 : decode b_Ex_act 106 = .ok (.aload_n 1, 1) := by decide +kernel
theorem d_Ex_act_107 : decode b_Ex_act 107 = .ok (.iconst 1, 1) := by decide +kernel
theorem d_Ex_act_108 : decode b_Ex_act 108 = .ok (.invokevirtual 121, 3) := by decide +kernel
theorem d_Ex_act_111 : decode b_Ex_act 111 = .ok (.invokevirtual 146, 3) := by decide +kernel
theorem d_Ex_act_114 : decode b_Ex_act 114 = .ok (.iconst 0, 1) := by decide +kernel
theorem d_Ex_act_115 : decode b_Ex_act 115 = .ok (.ireturn, 1) := by decide +kernel
theorem d_Ex_act_116 : decode b_Ex_act 116 = .ok (.aload_n 0, 1) := by decide +kernel
theorem d_Ex_act_117 : decode b_Ex_act 117 = .ok (.getfield 15, 3) := by decide +kernel
theorem d_Ex_act_120 : decode b_Ex_act 120 = .ok (.aload_n 1, 1) := by decide +kernel
theorem d_Ex_act_121 : decode b_Ex_act 121 = .ok (.iconst 1, 1) := by decide +kernel
theorem d_Ex_act_122 : decode b_Ex_act 122 = .ok (.invokevirtual 149, 3) := by decide +kernel
theorem d_Ex_act_125 : decode b_Ex_act 125 = .ok (.invokevirtual 153, 3) := by decide +kernel
theorem d_Ex_act_128 : decode b_Ex_act 128 = .ok (.iconst 0, 1) := by decide +kernel
theorem d_Ex_act_129 : decode b_Ex_act 129 = .ok (.ireturn, 1) := by decide +kernel
theorem d_Ex_act_130 : decode b_Ex_act 130 = .ok (.aload_n 0, 1) := by decide +kernel
theorem d_Ex_act_131 : decode b_Ex_act 131 = .ok (.aload_n 1, 1) := by decide +kernel
theorem d_Ex_act_132 : decode b_Ex_act 132 = .ok (.invokevirtual 158, 3) := by decide +kernel
theorem d_Ex_act_135 : decode b_Ex_act 135 = .ok (.ireturn, 1) := by decide +kernel
theorem d_Ex_act_136 : decode b_Ex_act 136 = .ok (.aload_n 0, 1) := by decide +kernel
theorem d_Ex_act_137 : decode b_Ex_act 137 = .ok (.getfield 9, 3) := by decide +kernel
theorem d_Ex_act_140 : decode b_Ex_act 140 = .ok (.invokevirtual 162, 3) := by decide +kernel
theorem d_Ex_act_143 : decode b_Ex_act 143 = .ok (.iconst 0, 1) := by decide +kernel
theorem d_Ex_act_144 : decode b_Ex_act 144 = .ok (.ireturn, 1) := by decide +kernel
theorem d_Ex_act_145 : decode b_Ex_act 145 = .ok (.aload_n 0, 1) := by decide +kernel
theorem d_Ex_act_146 : decode b_Ex_act 146 = .ok (.getfield 26, 3) := by decide +kernel
theorem d_Ex_act_149 : decode b_Ex_act 149 = .ok (.aload_n 1, 1) := by decide +kernel
theorem d_Ex_act_150 : decode b_Ex_act 150 = .ok (.getfield 116, 3) := by decide +kernel
theorem d_Ex_act_153 : decode b_Ex_act 153 = .ok (.aload_n 1, 1) := by decide +kernel
theorem d_Ex_act_154 : decode b_Ex_act 154 = .ok (.iconst 1, 1) := by decide +kernel
theorem d_Ex_act_155 : decode b_Ex_act 155 = .ok (.invokevirtual 117, 3) := by decide +kernel
theorem d_Ex_act_158 : decode b_Ex_act 158 = .ok (.aload_n 1, 1) := by decide +kernel
theorem d_Ex_act_159 : decode b_Ex_act 159 = .ok (.iconst 1, 1) := by decide +kernel
theorem d_Ex_act_160 : decode b_Ex_act 160 = .ok (.invokevirtual 121, 3) := by decide +kernel
theorem d_Ex_act_163 : decode b_Ex_act 163 = .ok (.aload_n 0, 1) := by decide +kernel
theorem d_Ex_act_164 : decode b_Ex_act 164 = .ok (.getfield 35, 3) := by decide +kernel
theorem d_Ex_act_167 : decode b_Ex_act 167 = .ok (.invokevirtual 165, 3) := by decide +kernel
theorem d_Ex_act_170 : decode b_Ex_act 170 = .ok (.ireturn, 1) := by decide +kernel
theorem d_Ex_act_171 : decode b_Ex_act 171 = .ok (.iconst 0, 1) := by decide +kernel
theorem d_Ex_act_172 : decode b_Ex_act 172 = .ok (.ireturn, 1) := by decide +kernel
theorem q_Ex_act : aw_q1 y_Ex_act b_Ex_act 3 (some .int) 2 := ⟨k_651, k_77, ⟨by decide, by decide, by decide +kernel⟩, by decide⟩
def y_Ex_makeText : MethodName := ⟨"RescanDesk$Expander", "makeText", "(LRescanDesk$Call;LRescanDesk$BuiltIn;)V"⟩
abbrev b_Ex_makeText : ByteArray := prog_7_method_8_code
theorem d_Ex_makeText_0 : decode b_Ex_makeText 0 = .ok (.getstatic 124, 3) := by decide +kernel
theorem d_Ex_makeText_3 : decode b_Ex_makeText 3 = .ok (.aload_n 2, 1) := by decide +kernel
theorem d_Ex_makeText_4 : decode b_Ex_makeText 4 = .ok (.invokevirtual 130, 3) := by decide +kernel
theorem d_Ex_makeText_7 : decode b_Ex_makeText 7 = .ok (.iaload, 1) := by decide +kernel
theorem d_Ex_makeText_8 : decode b_Ex_makeText 8 = .ok (.tableswitch 168 9 16 #[48, 70, 83, 100, 116, 124, 140, 150], 48) := by decide +kernel
theorem d_Ex_makeText_56 : decode b_Ex_makeText 56 = .ok (.aload_n 0, 1) := by decide +kernel
theorem d_Ex_makeText_57 : decode b_Ex_makeText 57 = .ok (.aload_n 1, 1) := by decide +kernel
theorem d_Ex_makeText_58 : decode b_Ex_makeText 58 = .ok (.aload_n 0, 1) := by decide +kernel
theorem d_Ex_makeText_59 : decode b_Ex_makeText 59 = .ok (.aload_n 1, 1) := by decide +kernel
theorem d_Ex_makeText_60 : decode b_Ex_makeText 60 = .ok (.invokevirtual 169, 3) := by decide +kernel
theorem d_Ex_makeText_63 : decode b_Ex_makeText 63 = .ok (.iconst (-1), 1) := by decide +kernel
theorem d_Ex_makeText_64 : decode b_Ex_makeText 64 = .ok (.if_icmp .ne 7, 3) := by decide +kernel
theorem d_Ex_makeText_67 : decode b_Ex_makeText 67 = .ok (.iconst 3, 1) := by decide +kernel
theorem d_Ex_makeText_68 : decode b_Ex_makeText 68 = .ok (.goto 4, 3) := by decide +kernel
theorem d_Ex_makeText_71 : decode b_Ex_makeText 71 = .ok (.iconst 2, 1) := by decide +kernel
theorem d_Ex_makeText_72 : decode b_Ex_makeText 72 = .ok (.invokevirtual 101, 3) := by decide +kernel
theorem d_Ex_makeText_75 : decode b_Ex_makeText 75 = .ok (.goto 101, 3) := by decide +kernel
theorem d_Ex_makeText_78 : decode b_Ex_makeText 78 = .ok (.aload_n 0, 1) := by decide +kernel
theorem d_Ex_makeText_79 : decode b_Ex_makeText 79 = .ok (.aload_n 1, 1) := by decide +kernel
theorem d_Ex_makeText_80 : decode b_Ex_makeText 80 = .ok (.aload_n 0, 1) := by decide +kernel
theorem d_Ex_makeText_81 : decode b_Ex_makeText 81 = .ok (.aload_n 1, 1) := by decide +kernel
theorem d_Ex_makeText_82 : decode b_Ex_makeText 82 = .ok (.invokevirtual 172, 3) := by decide +kernel
theorem d_Ex_makeText_85 : decode b_Ex_makeText 85 = .ok (.invokevirtual 101, 3) := by decide +kernel
theorem d_Ex_makeText_88 : decode b_Ex_makeText 88 = .ok (.goto 88, 3) := by decide +kernel
theorem d_Ex_makeText_91 : decode b_Ex_makeText 91 = .ok (.aload_n 0, 1) := by decide +kernel
theorem d_Ex_makeText_92 : decode b_Ex_makeText 92 = .ok (.getfield 35, 3) := by decide +kernel
theorem d_Ex_makeText_95 : decode b_Ex_makeText 95 = .ok (.aload_n 1, 1) := by decide +kernel
theorem d_Ex_makeText_96 : decode b_Ex_makeText 96 = .ok (.iconst 1, 1) := by decide +kernel
theorem d_Ex_makeText_97 : decode b_Ex_makeText 97 = .ok (.invokevirtual 149, 3) := by decide +kernel
theorem d_Ex_makeText_100 : decode b_Ex_makeText 100 = .ok (.lconst 1, 1) := by decide +kernel
theorem d_Ex_makeText_101 : decode b_Ex_makeText 101 = .ok (.ladd, 1) := by decide +kernel
theorem d_Ex_makeText_102 : decode b_Ex_makeText 102 = .ok (.invokevirtual 108, 3) := by decide +kernel
theorem d_Ex_makeText_105 : decode b_Ex_makeText 105 = .ok (.goto 71, 3) := by decide +kernel
theorem d_Ex_makeText_108 : decode b_Ex_makeText 108 = .ok (.aload_n 0, 1) := by decide +kernel
theorem d_Ex_makeText_109 : decode b_Ex_makeText 109 = .ok (.getfield 35, 3) := by decide +kernel
theorem d_Ex_makeText_112 : decode b_Ex_makeText 112 = .ok (.aload_n 1, 1) := by decide +kernel
theorem d_Ex_makeText_113 : decode b_Ex_makeText 113 = .ok (.iconst 1, 1) := by decide +kernel
theorem d_Ex_makeText_114 : decode b_Ex_makeText 114 = .ok (.invokevirtual 175, 3) := by decide +kernel
theorem d_Ex_makeText_117 : decode b_Ex_makeText 117 = .ok (.i2l, 1) := by decide +kernel
theorem d_Ex_makeText_118 : decode b_Ex_makeText 118 = .ok (.invokevirtual 108, 3) := by decide +kernel
theorem d_Ex_makeText_121 : decode b_Ex_makeText 121 = .ok (.goto 55, 3) := by decide +kernel
theorem d_Ex_makeText_124 : decode b_Ex_makeText 124 = .ok (.aload_n 0, 1) := by decide +kernel
theorem d_Ex_makeText_125 : decode b_Ex_makeText 125 = .ok (.aload_n 1, 1) := by decide +kernel
theorem d_Ex_makeText_126 : decode b_Ex_makeText 126 = .ok (.invokevirtual 177, 3) := by decide +kernel
theorem d_Ex_makeText_129 : decode b_Ex_makeText 129 = .ok (.goto 47, 3) := by decide +kernel
theorem d_Ex_makeText_132 : decode b_Ex_makeText 132 = .ok (.aload_n 0, 1) := by decide +kernel
theorem d_Ex_makeText_133 : decode b_Ex_makeText 133 = .ok (.getfield 35, 3) := by decide +kernel
theorem d_Ex_makeText_136 : decode b_Ex_makeText 136 = .ok (.aload_n 0, 1) := by decide +kernel
theorem d_Ex_makeText_137 : decode b_Ex_makeText 137 = .ok (.aload_n 1, 1) := by decide +kernel
theorem d_Ex_makeText_138 : decode b_Ex_makeText 138 = .ok (.invokevirtual 180, 3) := by decide +kernel
theorem d_Ex_makeText_141 : decode b_Ex_makeText 141 = .ok (.i2l, 1) := by decide +kernel
theorem d_Ex_makeText_142 : decode b_Ex_makeText 142 = .ok (.invokevirtual 108, 3) := by decide +kernel
theorem d_Ex_makeText_145 : decode b_Ex_makeText 145 = .ok (.goto 31, 3) := by decide +kernel
theorem d_Ex_makeText_148 : decode b_Ex_makeText 148 = .ok (.aload_n 0, 1) := by decide +kernel
theorem d_Ex_makeText_149 : decode b_Ex_makeText 149 = .ok (.aload_n 1, 1) := by decide +kernel
theorem d_Ex_makeText_150 : decode b_Ex_makeText 150 = .ok (.iconst 2, 1) := by decide +kernel
theorem d_Ex_makeText_151 : decode b_Ex_makeText 151 = .ok (.iconst 1, 1) := by decide +kernel
theorem d_Ex_makeText_152 : decode b_Ex_makeText 152 = .ok (.invokevirtual 112, 3) := by decide +kernel
theorem d_Ex_makeText_155 : decode b_Ex_makeText 155 = .ok (.goto 21, 3) := by decide +kernel
theorem d_Ex_makeText_158 : decode b_Ex_makeText 158 = .ok (.aload_n 0, 1) := by decide +kernel
theorem d_Ex_makeText_159 : decode b_Ex_makeText 159 = .ok (.getfield 35, 3) := by decide +kernel
theorem d_Ex_makeText_162 : decode b_Ex_makeText 162 = .ok (.aload_n 0, 1) := by decide +kernel
theorem d_Ex_makeText_163 : decode b_Ex_makeText 163 = .ok (.getfield 15, 3) := by decide +kernel
theorem d_Ex_makeText_166 : decode b_Ex_makeText 166 = .ok (.getfield 183, 3) := by decide +kernel
theorem d_Ex_makeText_169 : decode b_Ex_makeText 169 = .ok (.i2l, 1) := by decide +kernel
theorem d_Ex_makeText_170 : decode b_Ex_makeText 170 = .ok (.invokevirtual 108, 3) := by decide +kernel
theorem d_Ex_makeText_173 : decode b_Ex_makeText 173 = .ok (.goto 3, 3) := by decide +kernel
theorem d_Ex_makeText_176 : decode b_Ex_makeText 176 = .ok (.return_, 1) := by decide +kernel
theorem q_Ex_makeText : aw_q1 y_Ex_makeText b_Ex_makeText 3 none 2 := ⟨k_774, k_77, ⟨by decide, by decide, by decide +kernel⟩, by decide⟩
def y_Ex_placeOfFirst : MethodName := ⟨"RescanDesk$Expander", "placeOfFirst", "(LRescanDesk$Call;)I"⟩
abbrev b_Ex_placeOfFirst : ByteArray := prog_7_method_9_code
theorem d_Ex_placeOfFirst_0 : decode b_Ex_placeOfFirst 0 = .ok (.aload_n 0, 1) := by decide +kernel
theorem d_Ex_placeOfFirst_1 : decode b_Ex_placeOfFirst 1 = .ok (.getfield 19, 3) := by decide +kernel
theorem d_Ex_placeOfFirst_4 : decode b_Ex_placeOfFirst 4 = .ok (.aload_n 1, 1) := by decide +kernel
theorem d_Ex_placeOfFirst_5 : decode b_Ex_placeOfFirst 5 = .ok (.getfield 116, 3) := by decide +kernel
theorem d_Ex_placeOfFirst_8 : decode b_Ex_placeOfFirst 8 = .ok (.aload_n 1, 1) := by decide +kernel
theorem d_Ex_placeOfFirst_9 : decode b_Ex_placeOfFirst 9 = .ok (.iconst 1, 1) := by decide +kernel
theorem d_Ex_placeOfFirst_10 : decode b_Ex_placeOfFirst 10 = .ok (.invokevirtual 117, 3) := by decide +kernel
theorem d_Ex_placeOfFirst_13 : decode b_Ex_placeOfFirst 13 = .ok (.aload_n 1, 1) := by decide +kernel
theorem d_Ex_placeOfFirst_14 : decode b_Ex_placeOfFirst 14 = .ok (.iconst 1, 1) := by decide +kernel
theorem d_Ex_placeOfFirst_15 : decode b_Ex_placeOfFirst 15 = .ok (.invokevirtual 121, 3) := by decide +kernel
theorem d_Ex_placeOfFirst_18 : decode b_Ex_placeOfFirst 18 = .ok (.invokevirtual 186, 3) := by decide +kernel
theorem d_Ex_placeOfFirst_21 : decode b_Ex_placeOfFirst 21 = .ok (.ireturn, 1) := by decide +kernel
theorem q_Ex_placeOfFirst : aw_q1 y_Ex_placeOfFirst b_Ex_placeOfFirst 2 (some .int) 1 := ⟨k_676, k_77, ⟨by decide, by decide, by decide +kernel⟩, by decide⟩
def y_Ex_define : MethodName := ⟨"RescanDesk$Expander", "define", "(LRescanDesk$Call;Z)I"⟩
abbrev b_Ex_define : ByteArray := prog_7_method_10_code
theorem d_Ex_define_0 : decode b_Ex_define 0 = .ok (.aload_n 1, 1) := by decide +kernel
theorem d_Ex_define_1 : decode b_Ex_define 1 = .ok (.getfield 116, 3) := by decide +kernel
theorem d_Ex_define_4 : decode b_Ex_define 4 = .ok (.aload_n 1, 1) := by decide +kernel
theorem d_Ex_define_5 : decode b_Ex_define 5 = .ok (.iconst 1, 1) := by decide +kernel
theorem d_Ex_define_6 : decode b_Ex_define 6 = .ok (.invokevirtual 117, 3) := by decide +kernel
theorem d_Ex_define_9 : decode b_Ex_define 9 = .ok (.aload_n 1, 1) := by decide +kernel
theorem d_Ex_define_10 : decode b_Ex_define 10 = .ok (.iconst 1, 1) := by decide +kernel
theorem d_Ex_define_11 : decode b_Ex_define 11 = .ok (.invokevirtual 121, 3) := by decide +kernel
theorem d_Ex_define_14 : decode b_Ex_define 14 = .ok (.invokestatic 190, 3) := by decide +kernel
theorem d_Ex_define_17 : decode b_Ex_define 17 = .ok (.ifCond .ne 5, 3) := by decide +kernel
theorem d_Ex_define_20 : decode b_Ex_define 20 = .ok (.iconst 0, 1) := by decide +kernel
theorem d_Ex_define_21 : decode b_Ex_define 21 = .ok (.ireturn, 1) := by decide +kernel
theorem d_Ex_define_22 : decode b_Ex_define 22 = .ok (.aload_n 1, 1) := by decide +kernel
theorem d_Ex_define_23 : decode b_Ex_define 23 = .ok (.iconst 1, 1) := by decide +kernel
theorem d_Ex_define_24 : decode b_Ex_define 24 = .ok (.invokevirtual 175, 3) := by decide +kernel
theorem d_Ex_define_27 : decode b_Ex_define 27 = .ok (.bipush 12, 2) := by decide +kernel
theorem d_Ex_define_29 : decode b_Ex_define 29 = .ok (.if_icmp .gt 13, 3) := by decide +kernel
theorem d_Ex_define_32 : decode b_Ex_define 32 = .ok (.aload_n 1, 1) := by decide +kernel
theorem d_Ex_define_33 : decode b_Ex_define 33 = .ok (.iconst 2, 1) := by decide +kernel
theorem d_Ex_define_34 : decode b_Ex_define 34 = .ok (.invokevirtual 175, 3) := by decide +kernel
theorem d_Ex_define_37 : decode b_Ex_define 37 = .ok (.bipush 100, 2) := by decide +kernel
theorem d_Ex_define_39 : decode b_Ex_define 39 = .ok (.if_icmp .le 5, 3) := by decide +kernel
theorem d_Ex_define_42 : decode b_Ex_define 42 = .ok (.iconst 2, 1) := by decide +kernel
theorem d_Ex_define_43 : decode b_Ex_define 43 = .ok (.ireturn, 1) := by decide +kernel
theorem d_Ex_define_44 : decode b_Ex_define 44 = .ok (.iload_n 2, 1) := by decide +kernel
theorem d_Ex_define_45 : decode b_Ex_define 45 = .ok (.ifCond .eq 7, 3) := by decide +kernel
theorem d_Ex_define_48 : decode b_Ex_define 48 = .ok (.iconst (-1), 1) := by decide +kernel
theorem d_Ex_define_49 : decode b_Ex_define 49 = .ok (.goto 8, 3) := by decide +kernel
theorem d_Ex_define_52 : decode b_Ex_define 52 = .ok (.aload_n 0, 1) := by decide +kernel
theorem d_Ex_define_53 : decode b_Ex_define 53 = .ok (.aload_n 1, 1) := by decide +kernel
theorem d_Ex_define_54 : decode b_Ex_define 54 = .ok (.invokevirtual 169, 3) := by decide +kernel
theorem d_Ex_define_57 : decode b_Ex_define 57 = .ok (.istore_n 3, 1) := by decide +kernel
theorem d_Ex_define_58 : decode b_Ex_define 58 = .ok (.iload_n 3, 1) := by decide +kernel
theorem d_Ex_define_59 : decode b_Ex_define 59 = .ok (.iconst (-1), 1) := by decide +kernel
theorem d_Ex_define_60 : decode b_Ex_define 60 = .ok (.if_icmp .ne 27, 3) := by decide +kernel
theorem d_Ex_define_63 : decode b_Ex_define 63 = .ok (.aload_n 0, 1) := by decide +kernel
theorem d_Ex_define_64 : decode b_Ex_define 64 = .ok (.getfield 19, 3) := by decide +kernel
theorem d_Ex_define_67 : decode b_Ex_define 67 = .ok (.aload_n 1, 1) := by decide +kernel
theorem d_Ex_define_68 : decode b_Ex_define 68 = .ok (.getfield 116, 3) := by decide +kernel
theorem d_Ex_define_71 : decode b_Ex_define 71 = .ok (.aload_n 1, 1) := by decide +kernel
theorem d_Ex_define_72 : decode b_Ex_define 72 = .ok (.iconst 1, 1) := by decide +kernel
theorem d_Ex_define_73 : decode b_Ex_define 73 = .ok (.invokevirtual 117, 3) := by decide +kernel
theorem d_Ex_define_76 : decode b_Ex_define 76 = .ok (.aload_n 1, 1) := by decide +kernel
theorem d_Ex_define_77 : decode b_Ex_define 77 = .ok (.iconst 1, 1) := by decide +kernel
theorem d_Ex_define_78 : decode b_Ex_define 78 = .ok (.invokevirtual 121, 3) := by decide +kernel
theorem d_Ex_define_81 : decode b_Ex_define 81 = .ok (.invokevirtual 193, 3) := by decide +kernel
theorem d_Ex_define_84 : decode b_Ex_define 84 = .ok (.goto 12, 3) := by decide +kernel
theorem d_Ex_define_87 : decode b_Ex_define 87 = .ok (.aload_n 0, 1) := by decide +kernel
theorem d_Ex_define_88 : decode b_Ex_define 88 = .ok (.getfield 19, 3) := by decide +kernel
theorem d_Ex_define_91 : decode b_Ex_define 91 = .ok (.getfield 197, 3) := by decide +kernel
theorem d_Ex_define_94 : decode b_Ex_define 94 = .ok (.iload_n 3, 1) := by decide +kernel
theorem d_Ex_define_95 : decode b_Ex_define 95 = .ok (.aaload, 1) := by decide +kernel
theorem d_Ex_define_96 : decode b_Ex_define 96 = .ok (.astore 4, 2) := by decide +kernel
theorem d_Ex_define_98 : decode b_Ex_define 98 = .ok (.aload 4, 2) := by decide +kernel
theorem d_Ex_define_100 : decode b_Ex_define 100 = .ok (.ifnonnull 5, 3) := by decide +kernel
theorem d_Ex_define_103 : decode b_Ex_define 103 = .ok (.iconst 2, 1) := by decide +kernel
theorem d_Ex_define_104 : decode b_Ex_define 104 = .ok (.ireturn, 1) := by decide +kernel
theorem d_Ex_define_105 : decode b_Ex_define 105 = .ok (.aload 4, 2) := by decide +kernel
theorem d_Ex_define_107 : decode b_Ex_define 107 = .ok (.aload_n 1, 1) := by decide +kernel
theorem d_Ex_define_108 : decode b_Ex_define 108 = .ok (.getfield 116, 3) := by decide +kernel
theorem d_Ex_define_111 : decode b_Ex_define 111 = .ok (.aload_n 1, 1) := by decide +kernel
theorem d_Ex_define_112 : decode b_Ex_define 112 = .ok (.iconst 2, 1) := by decide +kernel
theorem d_Ex_define_113 : decode b_Ex_define 113 = .ok (.invokevirtual 117, 3) := by decide +kernel
theorem d_Ex_define_116 : decode b_Ex_define 116 = .ok (.aload_n 1, 1) := by decide +kernel
theorem d_Ex_define_117 : decode b_Ex_define 117 = .ok (.iconst 2, 1) := by decide +kernel
theorem d_Ex_define_118 : decode b_Ex_define 118 = .ok (.invokevirtual 121, 3) := by decide +kernel
theorem d_Ex_define_121 : decode b_Ex_define 121 = .ok (.invokevirtual 201, 3) := by decide +kernel
theorem d_Ex_define_124 : decode b_Ex_define 124 = .ok (.iconst 0, 1) := by decide +kernel
theorem d_Ex_define_125 : decode b_Ex_define 125 = .ok (.ireturn, 1) := by decide +kernel
theorem q_Ex_define : aw_q1 y_Ex_define b_Ex_define 5 (some .int) 2 := ⟨k_663, k_77, ⟨by decide, by decide, by decide +kernel⟩, by decide⟩
def y_Ex_undivert : MethodName := ⟨"RescanDesk$Expander", "undivert", "(LRescanDesk$Call;)I"⟩
abbrev b_Ex_undivert : ByteArray := prog_7_method_11_code
theorem d_Ex_undivert_0 : decode b_Ex_undivert 0 = .ok (.aload_n 1, 1) := by decide +kernel
theorem d_Ex_undivert_1 : decode b_Ex_undivert 1 = .ok (.getfield 105, 3) := by decide +kernel
theorem d_Ex_undivert_4 : decode b_Ex_undivert 4 = .ok (.ifCond .ne 26, 3) := by decide +kernel
theorem d_Ex_undivert_7 : decode b_Ex_undivert 7 = .ok (.aload_n 0, 1) := by decide +kernel
theorem d_Ex_undivert_8 : decode b_Ex_undivert 8 = .ok (.getfield 15, 3) := by decide +kernel
theorem d_Ex_undivert_11 : decode b_Ex_undivert 11 = .ok (.aload_n 0, 1) := by decide +kernel
theorem d_Ex_undivert_12 : decode b_Ex_undivert 12 = .ok (.getfield 15, 3) := by decide +kernel
theorem d_Ex_undivert_15 : decode b_Ex_undivert 15 = .ok (.getfield 183, 3) := by decide +kernel
theorem d_Ex_undivert_18 : decode b_Ex_undivert 18 = .ok (.invokevirtual 204, 3) := by decide +kernel
theorem d_Ex_undivert_21 : decode b_Ex_undivert 21 = .ok (.ifCond .eq 7, 3) := by decide +kernel
theorem d_Ex_undivert_24 : decode b_Ex_undivert 24 = .ok (.iconst 0, 1) := by decide +kernel
theorem d_Ex_undivert_25 : decode b_Ex_undivert 25 = .ok (.goto 4, 3) := by decide +kernel
theorem d_Ex_undivert_28 : decode b_Ex_undivert 28 = .ok (.iconst 2, 1) := by decide +kernel
theorem d_Ex_undivert_29 : decode b_Ex_undivert 29 = .ok (.ireturn, 1) := by decide +kernel
theorem d_Ex_undivert_30 : decode b_Ex_undivert 30 = .ok (.aload_n 1, 1) := by decide +kernel
theorem d_Ex_undivert_31 : decode b_Ex_undivert 31 = .ok (.iconst 1, 1) := by decide +kernel
theorem d_Ex_undivert_32 : decode b_Ex_undivert 32 = .ok (.invokevirtual 149, 3) := by decide +kernel
theorem d_Ex_undivert_35 : decode b_Ex_undivert 35 = .ok (.lstore_n 2, 1) := by decide +kernel
theorem d_Ex_undivert_36 : decode b_Ex_undivert 36 = .ok (.lload_n 2, 1) := by decide +kernel
theorem d_Ex_undivert_37 : decode b_Ex_undivert 37 = .ok (.lconst 1, 1) := by decide +kernel
theorem d_Ex_undivert_38 : decode b_Ex_undivert 38 = .ok (.lcmp, 1) := by decide +kernel
theorem d_Ex_undivert_39 : decode b_Ex_undivert 39 = .ok (.ifCond .lt 11, 3) := by decide +kernel
theorem d_Ex_undivert_42 : decode b_Ex_undivert 42 = .ok (.lload_n 2, 1) := by decide +kernel
theorem d_Ex_undivert_43 : decode b_Ex_undivert 43 = .ok (.ldc2_w 208, 3) := by decide +kernel
theorem d_Ex_undivert_46 : decode b_Ex_undivert 46 = .ok (.lcmp, 1) := by decide +kernel
theorem d_Ex_undivert_47 : decode b_Ex_undivert 47 = .ok (.ifCond .lt 5, 3) := by decide +kernel
theorem d_Ex_undivert_50 : decode b_Ex_undivert 50 = .ok (.iconst 0, 1) := by decide +kernel
theorem d_Ex_undivert_51 : decode b_Ex_undivert 51 = .ok (.ireturn, 1) := by decide +kernel
theorem d_Ex_undivert_52 : decode b_Ex_undivert 52 = .ok (.aload_n 0, 1) := by decide +kernel
theorem d_Ex_undivert_53 : decode b_Ex_undivert 53 = .ok (.getfield 15, 3) := by decide +kernel
theorem d_Ex_undivert_56 : decode b_Ex_undivert 56 = .ok (.lload_n 2, 1) := by decide +kernel
theorem d_Ex_undivert_57 : decode b_Ex_undivert 57 = .ok (.l2i, 1) := by decide +kernel
theorem d_Ex_undivert_58 : decode b_Ex_undivert 58 = .ok (.aload_n 0, 1) := by decide +kernel
theorem d_Ex_undivert_59 : decode b_Ex_undivert 59 = .ok (.getfield 15, 3) := by decide +kernel
theorem d_Ex_undivert_62 : decode b_Ex_undivert 62 = .ok (.getfield 183, 3) := by decide +kernel
theorem d_Ex_undivert_65 : decode b_Ex_undivert 65 = .ok (.invokevirtual 210, 3) := by decide +kernel
theorem d_Ex_undivert_68 : decode b_Ex_undivert 68 = .ok (.ifCond .eq 7, 3) := by decide +kernel
theorem d_Ex_undivert_71 : decode b_Ex_undivert 71 = .ok (.iconst 0, 1) := by decide +kernel
theorem d_Ex_undivert_72 : decode b_Ex_undivert 72 = .ok (.goto 4, 3) := by decide +kernel
theorem d_Ex_undivert_75 : decode b_Ex_undivert 75 = .ok (.iconst 2, 1) := by decide +kernel
theorem d_Ex_undivert_76 : decode b_Ex_undivert 76 = .ok (.ireturn, 1) := by decide +kernel
theorem q_Ex_undivert : aw_q1 y_Ex_undivert b_Ex_undivert 4 (some .int) 1 := ⟨k_715, k_77, ⟨by decide, by decide, by decide +kernel⟩, by decide⟩
def y_Ex_chosen : MethodName := ⟨"RescanDesk$Expander", "chosen", "(LRescanDesk$Call;)I"⟩
abbrev b_Ex_chosen : ByteArray := prog_7_method_12_code
theorem d_Ex_chosen_0 : decode b_Ex_chosen 0 = .ok (.iconst 1, 1) := by decide +kernel
theorem d_Ex_chosen_1 : decode b_Ex_chosen 1 = .ok (.istore_n 2, 1) := by decide +kernel
theorem d_Ex_chosen_2 : decode b_Ex_chosen 2 = .ok (.iload_n 2, 1) := by decide +kernel
theorem d_Ex_chosen_3 : decode b_Ex_chosen 3 = .ok (.bipush 9, 2) := by decide +kernel
theorem d_Ex_chosen_5 : decode b_Ex_chosen 5 = .ok (.if_icmp .ge 36, 3) := by decide +kernel
theorem d_Ex_chosen_8 : decode b_Ex_chosen 8 = .ok (.aload_n 1, 1) := by decide +kernel
theorem d_Ex_chosen_9 : decode b_Ex_chosen 9 = .ok (.iload_n 2, 1) := by decide +kernel
theorem d_Ex_chosen_10 : decode b_Ex_chosen 10 = .ok (.iload_n 2, 1) := by decide +kernel
theorem d_Ex_chosen_11 : decode b_Ex_chosen 11 = .ok (.iconst 1, 1) := by decide +kernel
theorem d_Ex_chosen_12 : decode b_Ex_chosen 12 = .ok (.iadd, 1) := by decide +kernel
theorem d_Ex_chosen_13 : decode b_Ex_chosen 13 = .ok (.invokevirtual 214, 3) := by decide +kernel
theorem d_Ex_chosen_16 : decode b_Ex_chosen 16 = .ok (.ifCond .ne 25, 3) := by decide +kernel
theorem d_Ex_chosen_19 : decode b_Ex_chosen 19 = .ok (.aload_n 1, 1) := by decide +kernel
theorem d_Ex_chosen_20 : decode b_Ex_chosen 20 = .ok (.getfield 105, 3) := by decide +kernel
theorem d_Ex_chosen_23 : decode b_Ex_chosen 23 = .ok (.iload_n 2, 1) := by decide +kernel
theorem d_Ex_chosen_24 : decode b_Ex_chosen 24 = .ok (.isub, 1) := by decide +kernel
theorem d_Ex_chosen_25 : decode b_Ex_chosen 25 = .ok (.iconst 1, 1) := by decide +kernel
theorem d_Ex_chosen_26 : decode b_Ex_chosen 26 = .ok (.iadd, 1) := by decide +kernel
theorem d_Ex_chosen_27 : decode b_Ex_chosen 27 = .ok (.iconst 5, 1) := by decide +kernel
theorem d_Ex_chosen_28 : decode b_Ex_chosen 28 = .ok (.if_icmp .ge 7, 3) := by decide +kernel
theorem d_Ex_chosen_31 : decode b_Ex_chosen 31 = .ok (.iload_n 2, 1) := by decide +kernel
theorem d_Ex_chosen_32 : decode b_Ex_chosen 32 = .ok (.iconst 3, 1) := by decide +kernel
theorem d_Ex_chosen_33 : decode b_Ex_chosen 33 = .ok (.iadd, 1) := by decide +kernel
theorem d_Ex_chosen_34 : decode b_Ex_chosen 34 = .ok (.ireturn, 1) := by decide +kernel
theorem d_Ex_chosen_35 : decode b_Ex_chosen 35 = .ok (.iinc 2 3, 3) := by decide +kernel
theorem d_Ex_chosen_38 : decode b_Ex_chosen 38 = .ok (.goto (-36), 3) := by decide +kernel
theorem d_Ex_chosen_41 : decode b_Ex_chosen 41 = .ok (.iload_n 2, 1) := by decide +kernel
theorem d_Ex_chosen_42 : decode b_Ex_chosen 42 = .ok (.iconst 2, 1) := by decide +kernel
theorem d_Ex_chosen_43 : decode b_Ex_chosen 43 = .ok (.iadd, 1) := by decide +kernel
theorem d_Ex_chosen_44 : decode b_Ex_chosen 44 = .ok (.ireturn, 1) := by decide +kernel
theorem q_Ex_chosen : aw_q1 y_Ex_chosen b_Ex_chosen 3 (some .int) 1 := ⟨k_778, k_77, ⟨by decide, by decide, by decide +kernel⟩, by decide⟩
def y_Ex_makePart : MethodName := ⟨"RescanDesk$Expander", "makePart", "(LRescanDesk$Call;)V"⟩
abbrev b_Ex_makePart : ByteArray := prog_7_method_13_code
theorem d_Ex_makePart_0 : decode b_Ex_makePart 0 = .ok (.aload_n 1, 1) := by decide +kernel
theorem d_Ex_makePart_1 : decode b_Ex_makePart 1 = .ok (.iconst 2, 1) := by decide +kernel
theorem d_Ex_makePart_2 : decode b_Ex_makePart 2 = .ok (.invokevirtual 149, 3) := by decide +kernel
theorem d_Ex_makePart_5 : decode b_Ex_makePart 5 = .ok (.lstore_n 2, 1) := by decide +kernel
theorem d_Ex_makePart_6 : decode b_Ex_makePart 6 = .ok (.aload_n 1, 1) := by decide +kernel
theorem d_Ex_makePart_7 : decode b_Ex_makePart 7 = .ok (.iconst 1, 1) := by decide +kernel
theorem d_Ex_makePart_8 : decode b_Ex_makePart 8 = .ok (.invokevirtual 175, 3) := by decide +kernel
theorem d_Ex_makePart_11 : decode b_Ex_makePart 11 = .ok (.istore 4, 2) := by decide +kernel
theorem d_Ex_makePart_13 : decode b_Ex_makePart 13 = .ok (.lload_n 2, 1) := by decide +kernel
theorem d_Ex_makePart_14 : decode b_Ex_makePart 14 = .ok (.lconst 0, 1) := by decide +kernel
theorem d_Ex_makePart_15 : decode b_Ex_makePart 15 = .ok (.lcmp, 1) := by decide +kernel
theorem d_Ex_makePart_16 : decode b_Ex_makePart 16 = .ok (.ifCond .lt 11, 3) := by decide +kernel
theorem d_Ex_makePart_19 : decode b_Ex_makePart 19 = .ok (.lload_n 2, 1) := by decide +kernel
theorem d_Ex_makePart_20 : decode b_Ex_makePart 20 = .ok (.iload 4, 2) := by decide +kernel
theorem d_Ex_makePart_22 : decode b_Ex_makePart 22 = .ok (.i2l, 1) := by decide +kernel
theorem d_Ex_makePart_23 : decode b_Ex_makePart 23 = .ok (.lcmp, 1) := by decide +kernel
theorem d_Ex_makePart_24 : decode b_Ex_makePart 24 = .ok (.ifCond .lt 4, 3) := by decide +kernel
theorem d_Ex_makePart_27 : decode b_Ex_makePart 27 = .ok (.return_, 1) := by decide +kernel
theorem d_Ex_makePart_28 : decode b_Ex_makePart 28 = .ok (.iload 4, 2) := by decide +kernel
theorem d_Ex_makePart_30 : decode b_Ex_makePart 30 = .ok (.i2l, 1) := by decide +kernel
theorem d_Ex_makePart_31 : decode b_Ex_makePart 31 = .ok (.lload_n 2, 1) := by decide +kernel
theorem d_Ex_makePart_32 : decode b_Ex_makePart 32 = .ok (.lsub, 1) := by decide +kernel
theorem d_Ex_makePart_33 : decode b_Ex_makePart 33 = .ok (.lstore 5, 2) := by decide +kernel
theorem d_Ex_makePart_35 : decode b_Ex_makePart 35 = .ok (.aload_n 1, 1) := by decide +kernel
theorem d_Ex_makePart_36 : decode b_Ex_makePart 36 = .ok (.getfield 105, 3) := by decide +kernel
theorem d_Ex_makePart_39 : decode b_Ex_makePart 39 = .ok (.iconst 3, 1) := by decide +kernel
theorem d_Ex_makePart_40 : decode b_Ex_makePart 40 = .ok (.if_icmp .lt 15, 3) := by decide +kernel
theorem d_Ex_makePart_43 : decode b_Ex_makePart 43 = .ok (.lload 5, 2) := by decide +kernel
theorem d_Ex_makePart_45 : decode b_Ex_makePart 45 = .ok (.aload_n 1, 1) := by decide +kernel
theorem d_Ex_makePart_46 : decode b_Ex_makePart 46 = .ok (.iconst 3, 1) := by decide +kernel
theorem d_Ex_makePart_47 : decode b_Ex_makePart 47 = .ok (.invokevirtual 149, 3) := by decide +kernel
theorem d_Ex_makePart_50 : decode b_Ex_makePart 50 = .ok (.invokestatic 217, 3) := by decide +kernel
theorem d_Ex_makePart_53 : decode b_Ex_makePart 53 = .ok (.lstore 5, 2) := by decide +kernel
theorem d_Ex_makePart_55 : decode b_Ex_makePart 55 = .ok (.aload_n 1, 1) := by decide +kernel
theorem d_Ex_makePart_56 : decode b_Ex_makePart 56 = .ok (.iconst 1, 1) := by decide +kernel
theorem d_Ex_makePart_57 : decode b_Ex_makePart 57 = .ok (.invokevirtual 117, 3) := by decide +kernel
theorem d_Ex_makePart_60 : decode b_Ex_makePart 60 = .ok (.lload_n 2, 1) := by decide +kernel
theorem d_Ex_makePart_61 : decode b_Ex_makePart 61 = .ok (.l2i, 1) := by decide +kernel
theorem d_Ex_makePart_62 : decode b_Ex_makePart 62 = .ok (.iadd, 1) := by decide +kernel
theorem d_Ex_makePart_63 : decode b_Ex_makePart 63 = .ok (.istore 7, 2) := by decide +kernel
theorem d_Ex_makePart_65 : decode b_Ex_makePart 65 = .ok (.aload_n 0, 1) := by decide +kernel
theorem d_Ex_makePart_66 : decode b_Ex_makePart 66 = .ok (.getfield 35, 3) := by decide +kernel
theorem d_Ex_makePart_69 : decode b_Ex_makePart 69 = .ok (.aload_n 1, 1) := by decide +kernel
theorem d_Ex_makePart_70 : decode b_Ex_makePart 70 = .ok (.getfield 116, 3) := by decide +kernel
theorem d_Ex_makePart_73 : decode b_Ex_makePart 73 = .ok (.iload 7, 2) := by decide +kernel
theorem d_Ex_makePart_75 : decode b_Ex_makePart 75 = .ok (.iload 7, 2) := by decide +kernel
theorem d_Ex_makePart_77 : decode b_Ex_makePart 77 = .ok (.lload 5, 2) := by decide +kernel
theorem d_Ex_makePart_79 : decode b_Ex_makePart 79 = .ok (.lconst 0, 1) := by decide +kernel
theorem d_Ex_makePart_80 : decode b_Ex_makePart 80 = .ok (.invokestatic 223, 3) := by decide +kernel
theorem d_Ex_makePart_83 : decode b_Ex_makePart 83 = .ok (.l2i, 1) := by decide +kernel
theorem d_Ex_makePart_84 : decode b_Ex_makePart 84 = .ok (.iadd, 1) := by decide +kernel
theorem d_Ex_makePart_85 : decode b_Ex_makePart 85 = .ok (.invokevirtual 94, 3) := by decide +kernel
theorem d_Ex_makePart_88 : decode b_Ex_makePart 88 = .ok (.pop, 1) := by decide +kernel
theorem d_Ex_makePart_89 : decode b_Ex_makePart 89 = .ok (.return_, 1) := by decide +kernel
theorem q_Ex_makePart : aw_q1 y_Ex_makePart b_Ex_makePart 8 none 1 := ⟨k_791, k_77, ⟨by decide, by decide, by decide +kernel⟩, by decide⟩
def y_Ex_index : MethodName := ⟨"RescanDesk$Expander", "index", "(LRescanDesk$Call;)I"⟩
abbrev b_Ex_index : ByteArray := prog_7_method_14_code
theorem d_Ex_index_0 : decode b_Ex_index 0 = .ok (.iconst 0, 1) := by decide +kernel
theorem d_Ex_index_1 : decode b_Ex_index 1 = .ok (.istore_n 2, 1) := by decide +kernel
theorem d_Ex_index_2 : decode b_Ex_index 2 = .ok (.iload_n 2, 1) := by decide +kernel
theorem d_Ex_index_3 : decode b_Ex_index 3 = .ok (.aload_n 1, 1) := by decide +kernel
theorem d_Ex_index_4 : decode b_Ex_index 4 = .ok (.iconst 1, 1) := by decide +kernel
theorem d_Ex_index_5 : decode b_Ex_index 5 = .ok (.invokevirtual 175, 3) := by decide +kernel
theorem d_Ex_index_8 : decode b_Ex_index 8 = .ok (.aload_n 1, 1) := by decide +kernel
theorem d_Ex_index_9 : decode b_Ex_index 9 = .ok (.iconst 2, 1) := by decide +kernel
theorem d_Ex_index_10 : decode b_Ex_index 10 = .ok (.invokevirtual 175, 3) := by decide +kernel
theorem d_Ex_index_13 : decode b_Ex_index 13 = .ok (.isub, 1) := by decide +kernel
theorem d_Ex_index_14 : decode b_Ex_index 14 = .ok (.if_icmp .gt 21, 3) := by decide +kernel
theorem d_Ex_index_17 : decode b_Ex_index 17 = .ok (.aload_n 1, 1) := by decide +kernel
theorem d_Ex_index_18 : decode b_Ex_index 18 = .ok (.iconst 2, 1) := by decide +kernel
theorem d_Ex_index_19 : decode b_Ex_index 19 = .ok (.iconst 1, 1) := by decide +kernel
theorem d_Ex_index_20 : decode b_Ex_index 20 = .ok (.iload_n 2, 1) := by decide +kernel
theorem d_Ex_index_21 : decode b_Ex_index 21 = .ok (.invokevirtual 226, 3) := by decide +kernel
theorem d_Ex_index_24 : decode b_Ex_index 24 = .ok (.ifCond .eq 5, 3) := by decide +kernel
theorem d_Ex_index_27 : decode b_Ex_index 27 = .ok (.iload_n 2, 1) := by decide +kernel
theorem d_Ex_index_28 : decode b_Ex_index 28 = .ok (.ireturn, 1) := by decide +kernel
theorem d_Ex_index_29 : decode b_Ex_index 29 = .ok (.iinc 2 1, 3) := by decide +kernel
theorem d_Ex_index_32 : decode b_Ex_index 32 = .ok (.goto (-30), 3) := by decide +kernel
theorem d_Ex_index_35 : decode b_Ex_index 35 = .ok (.iconst (-1), 1) := by decide +kernel
theorem d_Ex_index_36 : decode b_Ex_index 36 = .ok (.ireturn, 1) := by decide +kernel
theorem q_Ex_index : aw_q1 y_Ex_index b_Ex_index 3 (some .int) 1 := ⟨k_801, k_77, ⟨by decide, by decide, by decide +kernel⟩, by decide⟩
def argOf (ar : List (List Nat)) (i : Nat) : List Nat := if 1 ≤ i ∧ i ≤ ar.length then ar.getD (i - 1) [] else []
def hEx (w : Nat → va_E) (G : aw_G) : Prop := w 412 = aObj 8 [rf G 3, rf G 5, rf G 15, rf G 413, rf G 416]
theorem hRdy.keep {G : aw_G} {w w' : Nat → va_E} {a : Nat} {t : Def} {ar : List (List Nat)} {lo hi : Nat} (h : hRdy G w a t ar) (ha : 321 ≤ a ∧ a + 7 ≤ 412) (hf : fr lo hi w w') (h1 : hi ≤ 317 ∨ 412 ≤ lo) : hRdy G w' a t ar := by
  obtain ⟨st, gg, dp, bg, c1, c2, c3, c4⟩ := h
  exact ⟨st, gg, dp, bg, c1.keep hf (by omega), c2, (hf _ (by omega)).trans c3, c4⟩
/-- one argument in a list -/
def lst1 (ar : List (List Nat)) (q : Bool) (first i : Nat) : List Nat := (if first < i then [44] else []) ++ ((if q = true then [96] else []) ++ (argOf ar i ++ (if q = true then [39] else [])))
def lstK (ar : List (List Nat)) (q : Bool) (first : Nat) : Nat → Nat → List Nat
  | 0, _ => []
  | k + 1, i => lst1 ar q first i ++ lstK ar q first k (i + 1)
def lstL (ar : List (List Nat)) (q : Bool) (first : Nat) : List Nat := lstK ar q first (ar.length + 1 - first) first
/-- what stands for a $ and c -/
def parL (t : Def) (ar : List (List Nat)) (c : Nat) : Option (List Nat) :=
  if c = 48 then some t.1 else if isDig c = true then some (argOf ar (c - 48)) else if c = 35 then some (dec (lN ar.length)) else if c = 42 then some (lstL ar false 1) else if c = 64 then some (lstL ar true 1) else none
def bodyL (t : Def) (ar : List (List Nat)) : List Nat → List Nat
  | [] => []
  | [c] => [c]
  | c :: c2 :: r => if c = 36 then (match parL t ar c2 with
    | some L => L ++ bodyL t ar r
    | none => c :: bodyL t ar (c2 :: r)) else c :: bodyL t ar (c2 :: r)
section
variable {G : aw_G} {nx d : Nat} {w : Nat → va_E}
theorem s_Ex_makeArgument {a i : Nat} {t : Def} {ar : List (List Nat)} {s : List Nat} (hnx : 418 ≤ nx) (hd : 2 ≤ d) (ha : 321 ≤ a ∧ a + 7 ≤ 412) (hi : i < 100) (he : hEx w G) (hs : hTx G w 416 601 s) (h : hRdy G w a t ar) : AC G y_Ex_makeArgument b_Ex_makeArgument 3 none d false [rf G 412, rf G a, .int (nI i)] nx w 0 0 (fun r w' nx' => nx' = nx ∧ r = none ∧ hTx G w' 416 601 ((s ++ argOf ar i).take 601) ∧ fr 416 418 w w') := by
  obtain ⟨st, gg, dp, bg, c1, c2, c3, c4, c5, c6⟩ := h
  have c11 := c1.1
  have c1' : w a = aObj 7 [rf G (a + 1), rf G 319, rf G (a + 6), .int (nI ar.length), .int (nI dp), .int (nI (bN bg))] := c11
  have he' : w 412 = aObj 8 [rf G 3, rf G 5, rf G 15, rf G 413, rf G 416] := he
  have hft := c2.ft i
  refine AC.ofW (by decide) (Nat.le_of_ble_eq_true rfl) ?_
  intro E P hP Y X
  have X : aw_X G "RescanDesk$Expander" b_Ex_makeArgument 3 none "makeArgument" _ _ _ _ _ E := X
  refine AW.eql (lv' := [(0, _), (1, _), (2, _)]) (by rfl) ?_
  refine aw_aload_nR (pc := 0) X d_Ex_makeArgument_0 (by rfl) ?_
  refine aw_getO (pc := 1) X _ 4 (by omega) (by (repeat (first | rw [aw_up_eq] | rw [aw_up_ne _ _ (by first | assumption | omega)])) <;> first | assumption | rfl) (by rfl) in_Ex (by decide) k_360 (by rfl) d_Ex_makeArgument_1 ?_
  refine aw_aload_nR (pc := 4) X d_Ex_makeArgument_4 (by rfl) ?_
  refine aw_getNO (pc := 5) X _ 1 (by omega) (by (repeat (first | rw [aw_up_eq] | rw [aw_up_ne _ _ (by first | assumption | omega)])) <;> first | assumption | rfl) (by rfl) in_Ca (by decide) k_282 (by rfl) d_Ex_makeArgument_5 ?_
  refine aw_aload_nR (pc := 8) X d_Ex_makeArgument_8 (by rfl) ?_
  refine aw_iload_n (pc := 9) X d_Ex_makeArgument_9 (by rfl) ?_
  -- invokevirtual 10 lv=0:r,1:r,2:n st=n,r,r,r
  refine aw_callV (pc := 10) X _ (c_Ca_from (d := 0) (by omega) hi c2 c1) q_Ca_from k_627 k_628 k_629 (by omega) c11 (by rfl) d_Ex_makeArgument_10 (by omega) (Nat.le_of_ble_eq_true rfl) ⟨by omega, by omega⟩ (fun h => by cases h) (fun r w2 nx2 hp => ?_)
  obtain ⟨rfl, rfl, rfl⟩ := hp
  refine aw_aload_nR (pc := 13) X d_Ex_makeArgument_13 (by rfl) ?_
  refine aw_iload_n (pc := 14) X d_Ex_makeArgument_14 (by rfl) ?_
  -- invokevirtual 15 lv=0:r,1:r,2:n st=n,r,n,r,r
  refine aw_callV (pc := 15) X _ (c_Ca_to (d := 0) (by omega) hi c2 c1) q_Ca_to k_631 k_632 k_633 (by omega) c11 (by rfl) d_Ex_makeArgument_15 (by omega) (Nat.le_of_ble_eq_true rfl) ⟨by omega, by omega⟩ (fun h => by cases h) (fun r w2 nx2 hp => ?_)
  obtain ⟨rfl, rfl, rfl⟩ := hp
  refine aw_callV (pc := 18) X _ (s_Tx_addPart (d := 1) (a := 416) (m := 601) (q := 319) (l := 400) (f := gg) (by omega) (by omega) (by omega) (by omega) (by omega) hft.1 hft.2 c4 hs c3) q_Tx_addPart k_621 k_547 k_548 (by omega) hs.obj (by rfl) d_Ex_makeArgument_18 (by omega) (Nat.le_of_ble_eq_true rfl) ⟨by omega, by omega⟩ (fun h => by cases h) (fun r w2 nx2 hp => ?_)
  obtain ⟨rfl, rfl, h2, hf2⟩ := hp
  refine aw_pop (pc := 21) X d_Ex_makeArgument_21 (by rfl) ?_
  refine aw_vret Y X rfl d_Ex_makeArgument_22 (by omega) (by omega) (hP _ _ _ ?_)
  -- ret 22 lv=0:r,1:r,2:n st=
  refine ⟨rfl, rfl, ?_, hf2⟩
  have := c6 i
  unfold argL at this
  rw [this] at h2
  exact h2
theorem s_Ex_makeList {a f : Nat} {q : Bool} {t : Def} {ar : List (List Nat)} {s : List Nat} (hnx : 418 ≤ nx) (hd : 3 ≤ d) (ha : 321 ≤ a ∧ a + 7 ≤ 412) (hf1 : 1 ≤ f) (hf9 : f ≤ 2) (he : hEx w G) (hs : hTx G w 416 601 s) (h : hRdy G w a t ar) : AC G y_Ex_makeList b_Ex_makeList 5 none d false [rf G 412, rf G a, .int (nI f), .int (nI (bN q))] nx w 0 0 (fun r w' nx' => nx' = nx ∧ r = none ∧ hTx G w' 416 601 ((s ++ lstL ar q f).take 601) ∧ fr 416 418 w w') := by
  have hbq := bN_lt q
  refine AC.ofW (by decide) (Nat.le_of_ble_eq_true rfl) ?_
  intro E P hP Y X
  have X : aw_X G "RescanDesk$Expander" b_Ex_makeList 5 none "makeList" _ _ _ _ _ E := X
  refine AW.eql (lv' := [(0, _), (1, _), (2, _), (3, _)]) (by rfl) ?_
  have L : ∀ (k i : Nat) (w1 : Nat → va_E) (s1 : List Nat), i + k = max (ar.length + 1) f → 1 ≤ i → i ≤ 20 → hTx G w1 416 601 s1 → fr 416 418 w w1 → (s1 ++ lstK ar q f (ar.length + 1 - i) i).take 601 = (s ++ lstL ar q f).take 601 → AW G E 5 nx 0 0 w1 3 [(4, .int (nI i)), (0, rf G 412), (1, rf G a), (2, .int (nI f)), (3, .int (nI (bN q)))] [] := by
    intro k
    induction k with
    | zero =>
      intro i w1 s1 hik hi1 hi2 h1 hfr hr
      have hh := h.keep ha hfr (by omega)
      obtain ⟨st, gg, dp, bg, c1, c2, c3, c4, c5, c6⟩ := id hh
      have c1' : w1 a = aObj 7 [rf G (a + 1), rf G 319, rf G (a + 6), .int (nI ar.length), .int (nI dp), .int (nI (bN bg))] := c1.1
      have hn9 := c2.1
      refine aw_iload (pc := 3) X d_Ex_makeList_3 (by rfl) ?_
      refine aw_aload_nR (pc := 5) X d_Ex_makeList_5 (by rfl) ?_
      refine aw_getNO (pc := 6) X _ 3 (by omega) (by (repeat (first | rw [aw_up_eq] | rw [aw_up_ne _ _ (by first | assumption | omega)])) <;> first | assumption | rfl) (by rfl) in_Ca (by decide) k_286 (by rfl) d_Ex_makeList_6 ?_
      refine aw_icmp_gtN (pc := 9) X (tgt := 69) d_Ex_makeList_9 (by rfl) (by omega) (by omega) (fun h9 => ?_) (fun h9 => ?_)
      -- br 9 lv=4:n,0:r,1:r,2:n,3:n st=
      · refine aw_vret Y X rfl d_Ex_makeList_69 (by omega) (by omega) (hP _ _ _ ?_)
        -- ret 69 lv=4:n,0:r,1:r,2:n,3:n st=
        refine ⟨rfl, rfl, ?_, hfr⟩
        rw [← hr, show ar.length + 1 - i = 0 by omega, lstK, List.append_nil, List.take_of_length_le h1.le]
        exact h1
      · omega
    | succ k ih =>
      intro i w1 s1 hik hi1 hi2 h1 hfr hr
      have hh := h.keep ha hfr (by omega)
      obtain ⟨st, gg, dp, bg, c1, c2, c3, c4, c5, c6⟩ := id hh
      have c1' : w1 a = aObj 7 [rf G (a + 1), rf G 319, rf G (a + 6), .int (nI ar.length), .int (nI dp), .int (nI (bN bg))] := c1.1
      have hn9 := c2.1
      have he1 : hEx w1 G := (hfr _ (by omega)).trans he
      have he1' : w1 412 = aObj 8 [rf G 3, rf G 5, rf G 15, rf G 413, rf G 416] := he1
      have g1 := h1.obj
      -- the end of one argument
      have T3 : ∀ (w2 : Nat → va_E) (s2 : List Nat), i ≤ ar.length → hTx G w2 416 601 s2 → fr 416 418 w w2 → (s2 ++ ((if q = true then [39] else []) ++ lstK ar q f (ar.length + 1 - (i + 1)) (i + 1))).take 601 = (s ++ lstL ar q f).take 601 → AW G E 5 nx 0 0 w2 49 [(4, .int (nI i)), (0, rf G 412), (1, rf G a), (2, .int (nI f)), (3, .int (nI (bN q)))] [] := by
        intro w2 s2 hin h2 hf2 hr2
        have he2' : w2 412 = aObj 8 [rf G 3, rf G 5, rf G 15, rf G 413, rf G 416] := (hf2 _ (by omega)).trans he
        have g2 := h2.obj
        refine aw_iload_n (pc := 49) X d_Ex_makeList_49 (by rfl) ?_
        refine aw_if_eqN (pc := 50) X (tgt := 63) d_Ex_makeList_50 (by rfl) (by omega) (fun h50 => ?_) (fun h50 => ?_)
        -- br 50 lv=4:n,0:r,1:r,2:n,3:n st=
        · have hq := bN_eq.mp h50
          refine aw_iincN (pc := 63) X 1 (lv' := [(4, _), (0, _), (1, _), (2, _), (3, _)]) d_Ex_makeList_63 (by rfl) (by decide) (by decide) (by rfl) ?_
          refine aw_goto (pc := 66) X (tgt := 3) d_Ex_makeList_66 (by rfl) ?_
          -- stop 3 lv=4:n,0:r,1:r,2:n,3:n st=
          refine ih (i + 1) w2 s2 (by omega) (by omega) (by omega) h2 hf2 ?_
          rw [← hr2, hq]
          rfl
        · have hq := bN_ne.mp h50
          refine aw_aload_nR (pc := 53) X d_Ex_makeList_53 (by rfl) ?_
          refine aw_getO (pc := 54) X _ 4 (by omega) (by (repeat (first | rw [aw_up_eq] | rw [aw_up_ne _ _ (by first | assumption | omega)])) <;> first | assumption | rfl) (by rfl) in_Ex (by decide) k_360 (by rfl) d_Ex_makeList_54 ?_
          refine aw_bipushN (pc := 57) X 39 d_Ex_makeList_57 (by decide) ?_
          -- invokevirtual 59 lv=4:n,0:r,1:r,2:n,3:n st=n,r
          refine aw_callV (pc := 59) X _ (s_Tx_add (d := 0) (a := 416) (m := 601) (s := s2) (x := 39) (by omega) (by omega) (by omega) h2) q_Tx_add k_647 k_248 k_249 (by omega) g2 (by rfl) d_Ex_makeList_59 (by omega) (Nat.le_of_ble_eq_true rfl) ⟨by omega, by omega⟩ (fun h => by cases h) (fun r w3 nx3 hp => ?_)
          obtain ⟨rfl, rfl, h3, hf3⟩ := hp
          refine aw_pop (pc := 62) X d_Ex_makeList_62 (by rfl) ?_
          refine aw_iincN (pc := 63) X 1 (lv' := [(4, _), (0, _), (1, _), (2, _), (3, _)]) d_Ex_makeList_63 (by rfl) (by decide) (by decide) (by rfl) ?_
          refine aw_goto (pc := 66) X (tgt := 3) d_Ex_makeList_66 (by rfl) ?_
          -- stop 3 lv=4:n,0:r,1:r,2:n,3:n st=
          refine ih (i + 1) w3 _ (by omega) (by omega) (by omega) h3 (hf2.trans hf3) ?_
          rw [← hr2, hq, take_app, List.append_assoc]
          rfl
      have T2 : ∀ (w2 : Nat → va_E) (s2 : List Nat), i ≤ ar.length → hTx G w2 416 601 s2 → fr 416 418 w w2 → (s2 ++ (argOf ar i ++ ((if q = true then [39] else []) ++ lstK ar q f (ar.length + 1 - (i + 1)) (i + 1)))).take 601 = (s ++ lstL ar q f).take 601 → AW G E 5 nx 0 0 w2 42 [(4, .int (nI i)), (0, rf G 412), (1, rf G a), (2, .int (nI f)), (3, .int (nI (bN q)))] [] := by
        intro w2 s2 hin h2 hf2 hr2
        have he2 : hEx w2 G := (hf2 _ (by omega)).trans he
        have hh2 := h.keep ha hf2 (by omega)
        refine aw_aload_nR (pc := 42) X d_Ex_makeList_42 (by rfl) ?_
        refine aw_aload_nR (pc := 43) X d_Ex_makeList_43 (by rfl) ?_
        refine aw_iload (pc := 44) X d_Ex_makeList_44 (by rfl) ?_
        -- invokevirtual 46 lv=4:n,0:r,1:r,2:n,3:n st=n,r,r
        refine aw_callV (pc := 46) X _ (s_Ex_makeArgument (d := 2) hnx (by omega) ha (by omega) he2 h2 hh2) q_Ex_makeArgument k_623 k_625 k_9 (by omega) he2 (by rfl) d_Ex_makeList_46 (by omega) (Nat.le_of_ble_eq_true rfl) ⟨by omega, by omega⟩ (fun h => by cases h) (fun r w3 nx3 hp => ?_)
        obtain ⟨rfl, rfl, h3, hf3⟩ := hp
        refine T3 w3 _ hin h3 (hf2.trans hf3) ?_
        rw [← hr2, take_app, List.append_assoc]
      have T1 : ∀ (w2 : Nat → va_E) (s2 : List Nat), i ≤ ar.length → hTx G w2 416 601 s2 → fr 416 418 w w2 → (s2 ++ ((if q = true then [96] else []) ++ (argOf ar i ++ ((if q = true then [39] else []) ++ lstK ar q f (ar.length + 1 - (i + 1)) (i + 1))))).take 601 = (s ++ lstL ar q f).take 601 → AW G E 5 nx 0 0 w2 28 [(4, .int (nI i)), (0, rf G 412), (1, rf G a), (2, .int (nI f)), (3, .int (nI (bN q)))] [] := by
        intro w2 s2 hin h2 hf2 hr2
        have he2' : w2 412 = aObj 8 [rf G 3, rf G 5, rf G 15, rf G 413, rf G 416] := (hf2 _ (by omega)).trans he
        have g2 := h2.obj
        refine aw_iload_n (pc := 28) X d_Ex_makeList_28 (by rfl) ?_
        refine aw_if_eqN (pc := 29) X (tgt := 42) d_Ex_makeList_29 (by rfl) (by omega) (fun h29 => ?_) (fun h29 => ?_)
        -- br 29 lv=4:n,0:r,1:r,2:n,3:n st=
        · have hq := bN_eq.mp h29
          exact T2 w2 s2 hin h2 hf2 (by rw [← hr2, hq]; rfl)
        · have hq := bN_ne.mp h29
          refine aw_aload_nR (pc := 32) X d_Ex_makeList_32 (by rfl) ?_
          refine aw_getO (pc := 33) X _ 4 (by omega) (by (repeat (first | rw [aw_up_eq] | rw [aw_up_ne _ _ (by first | assumption | omega)])) <;> first | assumption | rfl) (by rfl) in_Ex (by decide) k_360 (by rfl) d_Ex_makeList_33 ?_
          refine aw_bipushN (pc := 36) X 96 d_Ex_makeList_36 (by decide) ?_
          -- invokevirtual 38 lv=4:n,0:r,1:r,2:n,3:n st=n,r
          refine aw_callV (pc := 38) X _ (s_Tx_add (d := 0) (a := 416) (m := 601) (s := s2) (x := 96) (by omega) (by omega) (by omega) h2) q_Tx_add k_647 k_248 k_249 (by omega) g2 (by rfl) d_Ex_makeList_38 (by omega) (Nat.le_of_ble_eq_true rfl) ⟨by omega, by omega⟩ (fun h => by cases h) (fun r w3 nx3 hp => ?_)
          obtain ⟨rfl, rfl, h3, hf3⟩ := hp
          refine aw_pop (pc := 41) X d_Ex_makeList_41 (by rfl) ?_
          -- stop 42 lv=4:n,0:r,1:r,2:n,3:n st=
          refine T2 w3 _ hin h3 (hf2.trans hf3) ?_
          rw [← hr2, hq, take_app, List.append_assoc]
          rfl
      refine aw_iload (pc := 3) X d_Ex_makeList_3 (by rfl) ?_
      refine aw_aload_nR (pc := 5) X d_Ex_makeList_5 (by rfl) ?_
      refine aw_getNO (pc := 6) X _ 3 (by omega) (by (repeat (first | rw [aw_up_eq] | rw [aw_up_ne _ _ (by first | assumption | omega)])) <;> first | assumption | rfl) (by rfl) in_Ca (by decide) k_286 (by rfl) d_Ex_makeList_6 ?_
      refine aw_icmp_gtN (pc := 9) X (tgt := 69) d_Ex_makeList_9 (by rfl) (by omega) (by omega) (fun h9 => ?_) (fun h9 => ?_)
      -- br 9 lv=4:n,0:r,1:r,2:n,3:n st=
      · refine aw_vret Y X rfl d_Ex_makeList_69 (by omega) (by omega) (hP _ _ _ ?_)
        -- ret 69 lv=4:n,0:r,1:r,2:n,3:n st=
        refine ⟨rfl, rfl, ?_, hfr⟩
        rw [← hr, show ar.length + 1 - i = 0 by omega, lstK, List.append_nil, List.take_of_length_le h1.le]
        exact h1
      · have hr3 : (s1 ++ ((if f < i then [44] else []) ++ ((if q = true then [96] else []) ++ (argOf ar i ++ ((if q = true then [39] else []) ++ lstK ar q f (ar.length + 1 - (i + 1)) (i + 1)))))).take 601 = (s ++ lstL ar q f).take 601 := by
          rw [← hr, show ar.length + 1 - i = (ar.length + 1 - (i + 1)) + 1 by omega, lstK, lst1]
          simp only [List.append_assoc]
        refine aw_iload (pc := 12) X d_Ex_makeList_12 (by rfl) ?_
        refine aw_iload_n (pc := 14) X d_Ex_makeList_14 (by rfl) ?_
        refine aw_icmp_leN (pc := 15) X (tgt := 28) d_Ex_makeList_15 (by rfl) (by omega) (by omega) (fun h15 => ?_) (fun h15 => ?_)
        -- br 15 lv=4:n,0:r,1:r,2:n,3:n st=
        · exact T1 w1 s1 h9 h1 hfr (by rw [← hr3, if_neg (show ¬ f < i by omega)]; rfl)
        · refine aw_aload_nR (pc := 18) X d_Ex_makeList_18 (by rfl) ?_
          refine aw_getO (pc := 19) X _ 4 (by omega) (by (repeat (first | rw [aw_up_eq] | rw [aw_up_ne _ _ (by first | assumption | omega)])) <;> first | assumption | rfl) (by rfl) in_Ex (by decide) k_360 (by rfl) d_Ex_makeList_19 ?_
          refine aw_bipushN (pc := 22) X 44 d_Ex_makeList_22 (by decide) ?_
          -- invokevirtual 24 lv=4:n,0:r,1:r,2:n,3:n st=n,r
          refine aw_callV (pc := 24) X _ (s_Tx_add (d := 0) (a := 416) (m := 601) (s := s1) (x := 44) (by omega) (by omega) (by omega) h1) q_Tx_add k_647 k_248 k_249 (by omega) g1 (by rfl) d_Ex_makeList_24 (by omega) (Nat.le_of_ble_eq_true rfl) ⟨by omega, by omega⟩ (fun h => by cases h) (fun r w3 nx3 hp => ?_)
          obtain ⟨rfl, rfl, h3, hf3⟩ := hp
          refine aw_pop (pc := 27) X d_Ex_makeList_27 (by rfl) ?_
          -- stop 28 lv=4:n,0:r,1:r,2:n,3:n st=
          exact T1 w3 _ h9 h3 (hfr.trans hf3) (by rw [← hr3, if_pos (show f < i by omega), take_app, List.append_assoc])
  have hn9 : ar.length ≤ 9 := by obtain ⟨st, gg, dp, bg, c1, c2, -⟩ := h; exact c2.1
  refine aw_iload_n (pc := 0) X d_Ex_makeList_0 (by rfl) ?_
  refine aw_istore (pc := 1) X (lv' := [(4, _), (0, _), (1, _), (2, _), (3, _)]) d_Ex_makeList_1 (by decide) (by rfl) ?_
  -- stop 3 lv=4:n,0:r,1:r,2:n,3:n st=
  exact L (max (ar.length + 1) f - f) f w s (by omega) hf1 (by omega) hs (fr.refl _ _ _) rfl
end
end
section
/-! Expander.makeParameter, makeBody -/
section
variable {G : aw_G} {nx d : Nat} {w : Nat → va_E}
theorem s_Ex_makeParameter {a c : Nat} {t : Def} {ar : List (List Nat)} {s : List Nat} (hnx : 418 ≤ nx) (hd : 4 ≤ d) (ha : 321 ≤ a ∧ a + 7 ≤ 412) (hc : c < 65536) (he : hEx w G) (hs : hTx G w 416 601 s) (h : hRdy G w a t ar) : AC G y_Ex_makeParameter b_Ex_makeParameter 4 (some .boolean) d false [rf G 412, rf G a, .int (nI c)] nx w 0 0 (fun r w' nx' => nx' = nx ∧ ((parL t ar c = none ∧ r = some (.int (nI 0)) ∧ w' = w) ∨ ∃ L, parL t ar c = some L ∧ r = some (.int (nI 1)) ∧ hTx G w' 416 601 ((s ++ L).take 601) ∧ fr 416 418 w w')) := by
  obtain ⟨st, gg, dp, bg, c1, c2, c3, c4, c5, c6⟩ := id h
  have c1' : w a = aObj 7 [rf G (a + 1), rf G 319, rf G (a + 6), .int (nI ar.length), .int (nI dp), .int (nI (bN bg))] := c1.1
  have c2' : w (a + 1) = aObj 5 [rf G (a + 1 + 1), rf G (a + 1 + 3), kV G t.2.1] := c1.2.1.1
  have he' : w 412 = aObj 8 [rf G 3, rf G 5, rf G 15, rf G 413, rf G 416] := he
  have hn9 := c2.1
  have hnm := c1.2.1.2.1
  have hno := hnm.obj
  obtain ⟨gn, n1, n2, n3⟩ := hnm.arr
  have hnl := hnm.le
  refine AC.ofW (by decide) (Nat.le_of_ble_eq_true rfl) ?_
  intro E P hP Y X
  have X : aw_X G "RescanDesk$Expander" b_Ex_makeParameter 4 (some .boolean) "makeParameter" _ _ _ _ _ E := X
  refine AW.eql (lv' := [(0, _), (1, _), (2, _)]) (by rfl) ?_
  have fin : ∀ (w2 : Nat → va_E) (L : List Nat) (lv : List (Nat × Value)), parL t ar c = some L → hTx G w2 416 601 ((s ++ L).take 601) → fr 416 418 w w2 → AW G E 4 nx 0 0 w2 108 lv [] := by
    intro w2 L lv h1 h2 h3
    refine aw_iconstN (pc := 108) X 1 d_Ex_makeParameter_108 (by decide) ?_
    refine aw_zret Y X rfl (by decide +kernel) d_Ex_makeParameter_109 (by omega) (by omega) (hP _ _ _ ?_)
    exact ⟨rfl, Or.inr ⟨L, h1, rfl, h2, h3⟩⟩
  refine aw_iload_n (pc := 0) X d_Ex_makeParameter_0 (by rfl) ?_
  refine aw_bipushN (pc := 1) X 48 d_Ex_makeParameter_1 (by decide) ?_
  refine aw_icmp_neN (pc := 3) X (tgt := 34) d_Ex_makeParameter_3 (by rfl) (by omega) (by omega) (fun h3 => ?_) (fun h3 => ?_)
  -- br 3 lv=0:r,1:r,2:n st=
  · refine aw_iload_n (pc := 34) X d_Ex_makeParameter_34 (by rfl) ?_
    -- invokestatic 35 lv=0:r,1:r,2:n st=n
    refine aw_callSN (pc := 35) X (c_Rd_isDigit (d := 0) hc) q_Rd_isDigit k_622 k_565 d_Ex_makeParameter_35 (by omega) (Nat.le_of_ble_eq_true rfl) ⟨by omega, by omega⟩ (fun h => by cases h) (fun r w2 nx2 hp => ?_)
    obtain ⟨rfl, rfl, rfl⟩ := hp
    have hb := bN_lt (isDig c)
    refine aw_if_eqN (pc := 38) X (tgt := 53) d_Ex_makeParameter_38 (by rfl) (by omega) (fun h38 => ?_) (fun h38 => ?_)
    -- br 38 lv=0:r,1:r,2:n st=
    · have hdg := bN_eq.mp h38
      refine aw_iload_n (pc := 53) X d_Ex_makeParameter_53 (by rfl) ?_
      refine aw_bipushN (pc := 54) X 35 d_Ex_makeParameter_54 (by decide) ?_
      refine aw_icmp_neN (pc := 56) X (tgt := 74) d_Ex_makeParameter_56 (by rfl) (by omega) (by omega) (fun h56 => ?_) (fun h56 => ?_)
      -- br 56 lv=0:r,1:r,2:n st=
      · refine aw_iload_n (pc := 74) X d_Ex_makeParameter_74 (by rfl) ?_
        refine aw_bipushN (pc := 75) X 42 d_Ex_makeParameter_75 (by decide) ?_
        refine aw_icmp_neN (pc := 77) X (tgt := 90) d_Ex_makeParameter_77 (by rfl) (by omega) (by omega) (fun h77 => ?_) (fun h77 => ?_)
        -- br 77 lv=0:r,1:r,2:n st=
        · refine aw_iload_n (pc := 90) X d_Ex_makeParameter_90 (by rfl) ?_
          refine aw_bipushN (pc := 91) X 64 d_Ex_makeParameter_91 (by decide) ?_
          refine aw_icmp_neN (pc := 93) X (tgt := 106) d_Ex_makeParameter_93 (by rfl) (by omega) (by omega) (fun h93 => ?_) (fun h93 => ?_)
          -- br 93 lv=0:r,1:r,2:n st=
          · refine aw_iconstN (pc := 106) X 0 d_Ex_makeParameter_106 (by decide) ?_
            refine aw_zret Y X rfl (by decide +kernel) d_Ex_makeParameter_107 (by omega) (by omega) (hP _ _ _ ?_)
            -- ret 107 lv=0:r,1:r,2:n st=n
            exact ⟨rfl, Or.inl ⟨by simp [parL, h3, hdg, h56, h77, h93], rfl, rfl⟩⟩
          · refine aw_aload_nR (pc := 96) X d_Ex_makeParameter_96 (by rfl) ?_
            refine aw_aload_nR (pc := 97) X d_Ex_makeParameter_97 (by rfl) ?_
            refine aw_iconstN (pc := 98) X 1 d_Ex_makeParameter_98 (by decide) ?_
            refine aw_iconstN (pc := 99) X 1 d_Ex_makeParameter_99 (by decide) ?_
            -- invokevirtual 100 lv=0:r,1:r,2:n st=n,n,r,r
            refine aw_callV (pc := 100) X _ (s_Ex_makeList (d := 3) (f := 1) (q := true) hnx (by omega) ha (by omega) (by omega) he hs h) q_Ex_makeList k_643 k_645 k_10 (by omega) he (by rfl) d_Ex_makeParameter_100 (by omega) (Nat.le_of_ble_eq_true rfl) ⟨by omega, by omega⟩ (fun h => by cases h) (fun r w3 nx3 hp => ?_)
            obtain ⟨rfl, rfl, h4, hf4⟩ := hp
            refine aw_goto (pc := 103) X (tgt := 108) d_Ex_makeParameter_103 (by rfl) ?_
            -- stop 108 lv=0:r,1:r,2:n st=
            exact fin w3 _ _ (by rw [parL, if_neg h3, if_neg (show ¬ isDig c = true by rw [hdg]; decide), if_neg h56, if_neg h77, if_pos h93]) h4 hf4
        · refine aw_aload_nR (pc := 80) X d_Ex_makeParameter_80 (by rfl) ?_
          refine aw_aload_nR (pc := 81) X d_Ex_makeParameter_81 (by rfl) ?_
          refine aw_iconstN (pc := 82) X 1 d_Ex_makeParameter_82 (by decide) ?_
          refine aw_iconstN (pc := 83) X 0 d_Ex_makeParameter_83 (by decide) ?_
          -- invokevirtual 84 lv=0:r,1:r,2:n st=n,n,r,r
          refine aw_callV (pc := 84) X _ (s_Ex_makeList (d := 3) (f := 1) (q := false) hnx (by omega) ha (by omega) (by omega) he hs h) q_Ex_makeList k_643 k_645 k_10 (by omega) he (by rfl) d_Ex_makeParameter_84 (by omega) (Nat.le_of_ble_eq_true rfl) ⟨by omega, by omega⟩ (fun h => by cases h) (fun r w3 nx3 hp => ?_)
          obtain ⟨rfl, rfl, h4, hf4⟩ := hp
          refine aw_goto (pc := 87) X (tgt := 108) d_Ex_makeParameter_87 (by rfl) ?_
          -- stop 108 lv=0:r,1:r,2:n st=
          exact fin w3 _ _ (by rw [parL, if_neg h3, if_neg (show ¬ isDig c = true by rw [hdg]; decide), if_neg h56, if_pos h77]) h4 hf4
      · refine aw_aload_nR (pc := 59) X d_Ex_makeParameter_59 (by rfl) ?_
        refine aw_getO (pc := 60) X _ 4 (by omega) (by (repeat (first | rw [aw_up_eq] | rw [aw_up_ne _ _ (by first | assumption | omega)])) <;> first | assumption | rfl) (by rfl) in_Ex (by decide) k_360 (by rfl) d_Ex_makeParameter_60 ?_
        refine aw_aload_nR (pc := 63) X d_Ex_makeParameter_63 (by rfl) ?_
        refine aw_getNO (pc := 64) X _ 3 (by omega) (by (repeat (first | rw [aw_up_eq] | rw [aw_up_ne _ _ (by first | assumption | omega)])) <;> first | assumption | rfl) (by rfl) in_Ca (by decide) k_286 (by rfl) d_Ex_makeParameter_64 ?_
        refine aw_i2lN (pc := 67) X d_Ex_makeParameter_67 (by omega) ?_
        -- invokevirtual 68 lv=0:r,1:r,2:n st=l,r
        refine aw_callV (pc := 68) X _ (s_Tx_addNumber (d := 1) (a := 416) (m := 601) (v := lN ar.length) (by omega) (by omega) (by omega) hs) q_Tx_addNumber k_635 k_636 k_637 (by omega) hs.obj (by rfl) d_Ex_makeParameter_68 (by omega) (Nat.le_of_ble_eq_true rfl) ⟨by omega, by omega⟩ (fun h => by cases h) (fun r w3 nx3 hp => ?_)
        obtain ⟨rfl, rfl, h4, hf4⟩ := hp
        refine aw_goto (pc := 71) X (tgt := 108) d_Ex_makeParameter_71 (by rfl) ?_
        -- stop 108 lv=0:r,1:r,2:n st=
        exact fin w3 _ _ (by rw [parL, if_neg h3, if_neg (show ¬ isDig c = true by rw [hdg]; decide), if_pos h56]) h4 hf4
    · have hdg := bN_ne.mp h38
      have hdg2 := of_decide_eq_true hdg
      refine aw_aload_nR (pc := 41) X d_Ex_makeParameter_41 (by rfl) ?_
      refine aw_aload_nR (pc := 42) X d_Ex_makeParameter_42 (by rfl) ?_
      refine aw_iload_n (pc := 43) X d_Ex_makeParameter_43 (by rfl) ?_
      refine aw_bipushN (pc := 44) X 48 d_Ex_makeParameter_44 (by decide) ?_
      refine aw_isubN (pc := 46) X d_Ex_makeParameter_46 (by omega) ?_
      -- invokevirtual 47 lv=0:r,1:r,2:n st=n,r,r
      refine aw_callV (pc := 47) X _ (s_Ex_makeArgument (d := 2) (i := c - 48) hnx (by omega) ha (by omega) he hs h) q_Ex_makeArgument k_623 k_625 k_9 (by omega) he (by rfl) d_Ex_makeParameter_47 (by omega) (Nat.le_of_ble_eq_true rfl) ⟨by omega, by omega⟩ (fun h => by cases h) (fun r w3 nx3 hp => ?_)
      obtain ⟨rfl, rfl, h4, hf4⟩ := hp
      refine aw_goto (pc := 50) X (tgt := 108) d_Ex_makeParameter_50 (by rfl) ?_
      -- stop 108 lv=0:r,1:r,2:n st=
      exact fin w3 _ _ (by simp [parL, h3, hdg]) h4 hf4
  · refine aw_aload_nR (pc := 6) X d_Ex_makeParameter_6 (by rfl) ?_
    refine aw_getNO (pc := 7) X _ 0 (by omega) (by (repeat (first | rw [aw_up_eq] | rw [aw_up_ne _ _ (by first | assumption | omega)])) <;> first | assumption | rfl) (by rfl) in_Ca (by decide) k_279 (by rfl) d_Ex_makeParameter_7 ?_
    refine aw_getNO (pc := 10) X _ 0 (by omega) (by (repeat (first | rw [aw_up_eq] | rw [aw_up_ne _ _ (by first | assumption | omega)])) <;> first | assumption | rfl) (by rfl) in_De (by decide) k_177 (by rfl) d_Ex_makeParameter_10 ?_
    refine aw_astore_nR (pc := 13) X (lv' := [(3, _), (0, _), (1, _), (2, _)]) d_Ex_makeParameter_13 (by decide) (by rfl) ?_
    refine aw_aload_nR (pc := 14) X d_Ex_makeParameter_14 (by rfl) ?_
    refine aw_getO (pc := 15) X _ 4 (by omega) (by (repeat (first | rw [aw_up_eq] | rw [aw_up_ne _ _ (by first | assumption | omega)])) <;> first | assumption | rfl) (by rfl) in_Ex (by decide) k_360 (by rfl) d_Ex_makeParameter_15 ?_
    refine aw_aload_nR (pc := 18) X d_Ex_makeParameter_18 (by rfl) ?_
    refine aw_getNO (pc := 19) X _ 0 (by omega) (by (repeat (first | rw [aw_up_eq] | rw [aw_up_ne _ _ (by first | assumption | omega)])) <;> first | assumption | rfl) (by rfl) in_Tx (by decide) k_104 (by rfl) d_Ex_makeParameter_19 ?_
    refine aw_iconstN (pc := 22) X 0 d_Ex_makeParameter_22 (by decide) ?_
    refine aw_aload_nR (pc := 23) X d_Ex_makeParameter_23 (by rfl) ?_
    refine aw_getNO (pc := 24) X _ 1 (by omega) (by (repeat (first | rw [aw_up_eq] | rw [aw_up_ne _ _ (by first | assumption | omega)])) <;> first | assumption | rfl) (by rfl) in_Tx (by decide) k_114 (by rfl) d_Ex_makeParameter_24 ?_
    -- invokevirtual 27 lv=3:r,0:r,1:r,2:n st=n,n,r,r
    refine aw_callV (pc := 27) X _ (s_Tx_addPart (d := 1) (a := 416) (m := 601) (q := a + 1 + 1 + 1) (l := 12) (f := gn) (u := 0) (v := t.1.length) (by omega) (by omega) (by omega) (by omega) (by omega) (by omega) hnl n3 hs n1) q_Tx_addPart k_621 k_547 k_548 (by omega) hs.obj (by rfl) d_Ex_makeParameter_27 (by omega) (Nat.le_of_ble_eq_true rfl) ⟨by omega, by omega⟩ (fun h => by cases h) (fun r w3 nx3 hp => ?_)
    obtain ⟨rfl, rfl, h4, hf4⟩ := hp
    rw [Nat.sub_zero, ← n2] at h4
    refine aw_pop (pc := 30) X d_Ex_makeParameter_30 (by rfl) ?_
    refine aw_goto (pc := 31) X (tgt := 108) d_Ex_makeParameter_31 (by rfl) ?_
    -- stop 108 lv=3:r,0:r,1:r,2:n st=
    exact fin w3 _ _ (by simp [parL, h3]) h4 hf4
theorem s_Ex_makeBody {a : Nat} {t : Def} {ar : List (List Nat)} {s : List Nat} (hnx : 418 ≤ nx) (hd : 5 ≤ d) (ha : 321 ≤ a ∧ a + 7 ≤ 412) (he : hEx w G) (hs : hTx G w 416 601 s) (h : hRdy G w a t ar) : AC G y_Ex_makeBody b_Ex_makeBody 5 none d false [rf G 412, rf G a] nx w 0 0 (fun r w' nx' => nx' = nx ∧ r = none ∧ hTx G w' 416 601 ((s ++ bodyL t ar t.2.2).take 601) ∧ fr 416 418 w w') := by
  obtain ⟨st, gg, dp, bg, c1, c2, c3, c4, c5, c6⟩ := id h
  have c1' : w a = aObj 7 [rf G (a + 1), rf G 319, rf G (a + 6), .int (nI ar.length), .int (nI dp), .int (nI (bN bg))] := c1.1
  have c2' : w (a + 1) = aObj 5 [rf G (a + 1 + 1), rf G (a + 1 + 3), kV G t.2.1] := c1.2.1.1
  have hbd := c1.2.1.2.2
  obtain ⟨gb, b1, b2, b3⟩ := hbd.arr
  have hbl := hbd.le
  have hbo := hbd.obj
  refine AC.ofW (by decide) (Nat.le_of_ble_eq_true rfl) ?_
  intro E P hP Y X
  have X : aw_X G "RescanDesk$Expander" b_Ex_makeBody 5 none "makeBody" _ _ _ _ _ E := X
  refine AW.eql (lv' := [(0, _), (1, _)]) (by rfl) ?_
  have L : ∀ (k i : Nat) (w1 : Nat → va_E) (s1 : List Nat), i + k = t.2.2.length → hTx G w1 416 601 s1 → fr 416 418 w w1 → (s1 ++ bodyL t ar (sl gb i k)).take 601 = (s ++ bodyL t ar t.2.2).take 601 → AW G E 5 nx 0 0 w1 10 [(3, .int (nI i)), (2, rf G (a + 1 + 3)), (0, rf G 412), (1, rf G a)] [] := by
    intro k
    induction k using Nat.strongRecOn with
    | ind k ih =>
    intro i w1 s1 hik h1 hfr hr
    have o1 : w1 (a + 1 + 3) = oTx G (a + 1 + 3 + 1) t.2.2.length := (hfr _ (by omega)).trans hbo
    have o2 : w1 (a + 1 + 3 + 1) = aCh G 100 gb := (hfr _ (by omega)).trans b1
    have he1 : hEx w1 G := (hfr _ (by omega)).trans he
    have he1' : w1 412 = aObj 8 [rf G 3, rf G 5, rf G 15, rf G 413, rf G 416] := he1
    have hh := h.keep ha hfr (by omega)
    have hgi := b3 i
    have hgi1 := b3 (i + 1)
    refine aw_iload_n (pc := 10) X d_Ex_makeBody_10 (by rfl) ?_
    refine aw_aload_nR (pc := 11) X d_Ex_makeBody_11 (by rfl) ?_
    refine aw_getNO (pc := 12) X _ 1 (by omega) (by (repeat (first | rw [aw_up_eq] | rw [aw_up_ne _ _ (by first | assumption | omega)])) <;> first | assumption | rfl) (by rfl) in_Tx (by decide) k_114 (by rfl) d_Ex_makeBody_12 ?_
    refine aw_icmp_geN (pc := 15) X (tgt := 97) d_Ex_makeBody_15 (by rfl) (by omega) (by omega) (fun h15 => ?_) (fun h15 => ?_)
    -- br 15 lv=3:n,2:r,0:r,1:r st=
    · refine aw_vret Y X rfl d_Ex_makeBody_97 (by omega) (by omega) (hP _ _ _ ?_)
      -- ret 97 lv=3:n,2:r,0:r,1:r st=
      refine ⟨rfl, rfl, ?_, hfr⟩
      rw [← hr, show k = 0 by omega, sl_0, bodyL, List.append_nil, List.take_of_length_le h1.le]
      exact h1
    · -- a character as it is
      have S0 : ∀ (x : List (Nat × Value)), (s1 ++ (gb i :: bodyL t ar (sl gb (i + 1) (k - 1)))).take 601 = (s ++ bodyL t ar t.2.2).take 601 → AW G E 5 nx 0 0 w1 59 [(3, .int (nI i)), (2, rf G (a + 1 + 3)), (0, rf G 412), (1, rf G a)] [] := by
        intro x hr0
        have g1 := h1.obj
        refine aw_iconstN (pc := 59) X 0 d_Ex_makeBody_59 (by decide) ?_
        refine aw_istore (pc := 60) X (lv' := [(4, _), (3, _), (2, _), (0, _), (1, _)]) d_Ex_makeBody_60 (by decide) (by rfl) ?_
        refine aw_iload (pc := 62) X d_Ex_makeBody_62 (by rfl) ?_
        refine aw_if_neN (pc := 64) X (tgt := 81) d_Ex_makeBody_64 (by rfl) (by omega) (fun h64 => ?_) (fun h64 => ?_)
        -- br 64 lv=4:n,3:n,2:r,0:r,1:r st=
        · refine aw_iload_n (pc := 81) X d_Ex_makeBody_81 (by rfl) ?_
          refine aw_iload (pc := 82) X d_Ex_makeBody_82 (by rfl) ?_
          refine aw_if_eqN (pc := 84) X (tgt := 91) d_Ex_makeBody_84 (by rfl) (by omega) (fun h84 => ?_) (fun h84 => ?_)
          -- br 84 lv=4:n,3:n,2:r,0:r,1:r st=n
          · omega
          · omega
        · refine aw_aload_nR (pc := 67) X d_Ex_makeBody_67 (by rfl) ?_
          refine aw_getO (pc := 68) X _ 4 (by omega) (by (repeat (first | rw [aw_up_eq] | rw [aw_up_ne _ _ (by first | assumption | omega)])) <;> first | assumption | rfl) (by rfl) in_Ex (by decide) k_360 (by rfl) d_Ex_makeBody_68 ?_
          refine aw_aload_nR (pc := 71) X d_Ex_makeBody_71 (by rfl) ?_
          refine aw_getNO (pc := 72) X _ 0 (by omega) (by (repeat (first | rw [aw_up_eq] | rw [aw_up_ne _ _ (by first | assumption | omega)])) <;> first | assumption | rfl) (by rfl) in_Tx (by decide) k_104 (by rfl) d_Ex_makeBody_72 ?_
          refine aw_iload_n (pc := 75) X d_Ex_makeBody_75 (by rfl) ?_
          refine aw_caldN (pc := 76) X _ 0 (by omega) (by (repeat (first | rw [aw_up_eq] | rw [aw_up_ne _ _ (by first | assumption | omega)])) <;> first | assumption | rfl) (by rfl) (by omega) (by omega) d_Ex_makeBody_76 ?_
          -- invokevirtual 77 lv=4:n,3:n,2:r,0:r,1:r st=n,r
          refine aw_callV (pc := 77) X _ (s_Tx_add (d := 0) (a := 416) (m := 601) (s := s1) (x := gb i) (by omega) (by omega) hgi h1) q_Tx_add k_647 k_248 k_249 (by omega) g1 (by rfl) d_Ex_makeBody_77 (by omega) (Nat.le_of_ble_eq_true rfl) ⟨by omega, by omega⟩ (fun h => by cases h) (fun r w3 nx3 hp => ?_)
          obtain ⟨rfl, rfl, h3, hf3⟩ := hp
          refine aw_pop (pc := 80) X d_Ex_makeBody_80 (by rfl) ?_
          refine aw_iload_n (pc := 81) X d_Ex_makeBody_81 (by rfl) ?_
          refine aw_iload (pc := 82) X d_Ex_makeBody_82 (by rfl) ?_
          refine aw_if_eqN (pc := 84) X (tgt := 91) d_Ex_makeBody_84 (by rfl) (by omega) (fun h84 => ?_) (fun h84 => ?_)
          -- br 84 lv=4:n,3:n,2:r,0:r,1:r st=n
          · refine aw_iconstN (pc := 91) X 1 d_Ex_makeBody_91 (by decide) ?_
            refine aw_iaddN (pc := 92) X d_Ex_makeBody_92 ?_
            refine aw_istore_n (pc := 93) X (lv' := [(3, _), (4, _), (2, _), (0, _), (1, _)]) d_Ex_makeBody_93 (by decide) (by rfl) ?_
            refine aw_goto (pc := 94) X (tgt := 10) d_Ex_makeBody_94 (by rfl) ?_
            -- stop 10 lv=3:n,4:n,2:r,0:r,1:r st=
            refine AW.lsub [0, 2, 3, 4] (by rfl) ?_
            refine ih (k - 1) (by omega) (i + 1) w3 _ (by omega) h3 (hfr.trans hf3) ?_
            rw [← hr0, take_app, List.append_assoc]
            rfl
          · omega
      refine aw_aload_nR (pc := 18) X d_Ex_makeBody_18 (by rfl) ?_
      refine aw_getNO (pc := 19) X _ 0 (by omega) (by (repeat (first | rw [aw_up_eq] | rw [aw_up_ne _ _ (by first | assumption | omega)])) <;> first | assumption | rfl) (by rfl) in_Tx (by decide) k_104 (by rfl) d_Ex_makeBody_19 ?_
      refine aw_iload_n (pc := 22) X d_Ex_makeBody_22 (by rfl) ?_
      refine aw_caldN (pc := 23) X _ 0 (by omega) (by (repeat (first | rw [aw_up_eq] | rw [aw_up_ne _ _ (by first | assumption | omega)])) <;> first | assumption | rfl) (by rfl) (by omega) (by omega) d_Ex_makeBody_23 ?_
      refine aw_bipushN (pc := 24) X 36 d_Ex_makeBody_24 (by decide) ?_
      refine aw_icmp_neN (pc := 26) X (tgt := 59) d_Ex_makeBody_26 (by rfl) (by omega) (by omega) (fun h26 => ?_) (fun h26 => ?_)
      -- br 26 lv=3:n,2:r,0:r,1:r st=
      · refine S0 [] ?_
        rw [← hr]
        congr 2
        cases k with
        | zero => omega
        | succ k =>
          rw [sl_cons]
          cases k with
          | zero => rfl
          | succ k => rw [Nat.add_sub_cancel, sl_cons, bodyL, if_neg h26]
      · refine aw_iload_n (pc := 29) X d_Ex_makeBody_29 (by rfl) ?_
        refine aw_iconstN (pc := 30) X 1 d_Ex_makeBody_30 (by decide) ?_
        refine aw_iaddN (pc := 31) X d_Ex_makeBody_31 ?_
        refine aw_aload_nR (pc := 32) X d_Ex_makeBody_32 (by rfl) ?_
        refine aw_getNO (pc := 33) X _ 1 (by omega) (by (repeat (first | rw [aw_up_eq] | rw [aw_up_ne _ _ (by first | assumption | omega)])) <;> first | assumption | rfl) (by rfl) in_Tx (by decide) k_114 (by rfl) d_Ex_makeBody_33 ?_
        refine aw_icmp_geN (pc := 36) X (tgt := 59) d_Ex_makeBody_36 (by rfl) (by omega) (by omega) (fun h36 => ?_) (fun h36 => ?_)
        -- br 36 lv=3:n,2:r,0:r,1:r st=
        · refine S0 [] ?_
          rw [← hr]
          congr 2
          rw [show k = 0 + 1 by omega, sl_cons]
          rfl
        · have ek : sl gb i k = gb i :: gb (i + 1) :: sl gb (i + 2) (k - 2) := by
            rw [show k = (k - 2) + 1 + 1 by omega, sl_cons, sl_cons]
            rfl
          have ek1 : sl gb (i + 1) (k - 1) = gb (i + 1) :: sl gb (i + 2) (k - 2) := by
            rw [show k - 1 = (k - 2) + 1 by omega, sl_cons]
          refine aw_aload_nR (pc := 39) X d_Ex_makeBody_39 (by rfl) ?_
          refine aw_aload_nR (pc := 40) X d_Ex_makeBody_40 (by rfl) ?_
          refine aw_aload_nR (pc := 41) X d_Ex_makeBody_41 (by rfl) ?_
          refine aw_getNO (pc := 42) X _ 0 (by omega) (by (repeat (first | rw [aw_up_eq] | rw [aw_up_ne _ _ (by first | assumption | omega)])) <;> first | assumption | rfl) (by rfl) in_Tx (by decide) k_104 (by rfl) d_Ex_makeBody_42 ?_
          refine aw_iload_n (pc := 45) X d_Ex_makeBody_45 (by rfl) ?_
          refine aw_iconstN (pc := 46) X 1 d_Ex_makeBody_46 (by decide) ?_
          refine aw_iaddN (pc := 47) X d_Ex_makeBody_47 ?_
          refine aw_caldN (pc := 48) X _ 0 (by omega) (by (repeat (first | rw [aw_up_eq] | rw [aw_up_ne _ _ (by first | assumption | omega)])) <;> first | assumption | rfl) (by rfl) (by omega) (by omega) d_Ex_makeBody_48 ?_
          -- invokevirtual 49 lv=3:n,2:r,0:r,1:r st=n,r,r
          refine aw_callV (pc := 49) X _ (s_Ex_makeParameter (d := 4) (c := gb (i + 1)) hnx (by omega) ha hgi1 he1 h1 hh) q_Ex_makeParameter k_617 k_619 k_8 (by omega) he1 (by rfl) d_Ex_makeBody_49 (by omega) (Nat.le_of_ble_eq_true rfl) ⟨by omega, by omega⟩ (fun h => by cases h) (fun r w3 nx3 hp => ?_)
          obtain ⟨rfl, ⟨hpn, rfl, rfl⟩ | ⟨Lp, hpn, rfl, h3, hf3⟩⟩ := hp
          · refine aw_if_eqN (pc := 52) X (tgt := 59) d_Ex_makeBody_52 (by rfl) (by omega) (fun h52 => ?_) (fun h52 => ?_)
            -- br 52 lv=3:n,2:r,0:r,1:r st=
            · refine S0 [] ?_
              rw [← hr, ek, bodyL, if_pos h26, hpn, ek1]
            · omega
          · refine aw_if_eqN (pc := 52) X (tgt := 59) d_Ex_makeBody_52 (by rfl) (by omega) (fun h52 => ?_) (fun h52 => ?_)
            -- br 52 lv=3:n,2:r,0:r,1:r st=
            · omega
            · refine aw_iconstN (pc := 55) X 1 d_Ex_makeBody_55 (by decide) ?_
              refine aw_goto (pc := 56) X (tgt := 60) d_Ex_makeBody_56 (by rfl) ?_
              refine aw_istore (pc := 60) X (lv' := [(4, _), (3, _), (2, _), (0, _), (1, _)]) d_Ex_makeBody_60 (by decide) (by rfl) ?_
              refine aw_iload (pc := 62) X d_Ex_makeBody_62 (by rfl) ?_
              refine aw_if_neN (pc := 64) X (tgt := 81) d_Ex_makeBody_64 (by rfl) (by omega) (fun h64 => ?_) (fun h64 => ?_)
              -- br 64 lv=4:n,3:n,2:r,0:r,1:r st=
              · refine aw_iload_n (pc := 81) X d_Ex_makeBody_81 (by rfl) ?_
                refine aw_iload (pc := 82) X d_Ex_makeBody_82 (by rfl) ?_
                refine aw_if_eqN (pc := 84) X (tgt := 91) d_Ex_makeBody_84 (by rfl) (by omega) (fun h84 => ?_) (fun h84 => ?_)
                -- br 84 lv=4:n,3:n,2:r,0:r,1:r st=n
                · omega
                · refine aw_iconstN (pc := 87) X 2 d_Ex_makeBody_87 (by decide) ?_
                  refine aw_goto (pc := 88) X (tgt := 92) d_Ex_makeBody_88 (by rfl) ?_
                  refine aw_iaddN (pc := 92) X d_Ex_makeBody_92 ?_
                  refine aw_istore_n (pc := 93) X (lv' := [(3, _), (4, _), (2, _), (0, _), (1, _)]) d_Ex_makeBody_93 (by decide) (by rfl) ?_
                  refine aw_goto (pc := 94) X (tgt := 10) d_Ex_makeBody_94 (by rfl) ?_
                  -- stop 10 lv=3:n,4:n,2:r,0:r,1:r st=
                  refine AW.lsub [0, 2, 3, 4] (by rfl) ?_
                  refine ih (k - 2) (by omega) (i + 2) w3 _ (by omega) h3 (hfr.trans hf3) ?_
                  rw [← hr, ek, bodyL, if_pos h26, hpn, take_app, List.append_assoc]
              · omega
  refine aw_aload_nR (pc := 0) X d_Ex_makeBody_0 (by rfl) ?_
  refine aw_getNO (pc := 1) X _ 0 (by omega) (by (repeat (first | rw [aw_up_eq] | rw [aw_up_ne _ _ (by first | assumption | omega)])) <;> first | assumption | rfl) (by rfl) in_Ca (by decide) k_279 (by rfl) d_Ex_makeBody_1 ?_
  refine aw_getNO (pc := 4) X _ 1 (by omega) (by (repeat (first | rw [aw_up_eq] | rw [aw_up_ne _ _ (by first | assumption | omega)])) <;> first | assumption | rfl) (by rfl) in_De (by decide) k_179 (by rfl) d_Ex_makeBody_4 ?_
  refine aw_astore_nR (pc := 7) X (lv' := [(2, _), (0, _), (1, _)]) d_Ex_makeBody_7 (by decide) (by rfl) ?_
  refine aw_iconstN (pc := 8) X 0 d_Ex_makeBody_8 (by decide) ?_
  refine aw_istore_n (pc := 9) X (lv' := [(3, _), (2, _), (0, _), (1, _)]) d_Ex_makeBody_9 (by decide) (by rfl) ?_
  -- stop 10 lv=3:n,2:r,0:r,1:r st=
  exact L t.2.2.length 0 w s (by omega) hs (fr.refl _ _ _) (by rw [← b2])
end
end
section
/-! RescanDesk$Expression at 413, its signs at 414 -/
def y_Ep_init : MethodName := ⟨"RescanDesk$Expression", "<init>", "()V"⟩
abbrev b_Ep_init : ByteArray := prog_8_method_1_code
theorem d_Ep_init_0 : decode b_Ep_init 0 = .ok (.aload_n 0, 1) := by decide +kernel
theorem d_Ep_init_1 : decode b_Ep_init 1 = .ok (.invokespecial 3, 3) := by decide +kernel
theorem d_Ep_init_4 : decode b_Ep_init 4 = .ok (.aload_n 0, 1) := by decide +kernel
theorem d_Ep_init_5 : decode b_Ep_init 5 = .ok (.new 9, 3) := by decide +kernel
theorem d_Ep_init_8 : decode b_Ep_init 8 = .ok (.dup, 1) := by decide +kernel
theorem d_Ep_init_9 : decode b_Ep_init 9 = .ok (.sipush 400, 3) := by decide +kernel
theorem d_Ep_init_12 : decode b_Ep_init 12 = .ok (.invokespecial 11, 3) := by decide +kernel
theorem d_Ep_init_15 : decode b_Ep_init 15 = .ok (.putfield 14, 3) := by decide +kernel
theorem d_Ep_init_18 : decode b_Ep_init 18 = .ok (.aload_n 0, 1) := by decide +kernel
theorem d_Ep_init_19 : decode b_Ep_init 19 = .ok (.iconst 0, 1) := by decide +kernel
theorem d_Ep_init_20 : decode b_Ep_init 20 = .ok (.putfield 20, 3) := by decide +kernel
theorem d_Ep_init_23 : decode b_Ep_init 23 = .ok (.aload_n 0, 1) := by decide +kernel
theorem d_Ep_init_24 : decode b_Ep_init 24 = .ok (.iconst 0, 1) := by decide +kernel
theorem d_Ep_init_25 : decode b_Ep_init 25 = .ok (.putfield 24, 3) := by decide +kernel
theorem d_Ep_init_28 : decode b_Ep_init 28 = .ok (.aload_n 0, 1) := by decide +kernel
theorem d_Ep_init_29 : decode b_Ep_init 29 = .ok (.iconst 0, 1) := by decide +kernel
theorem d_Ep_init_30 : decode b_Ep_init 30 = .ok (.putfield 28, 3) := by decide +kernel
theorem d_Ep_init_33 : decode b_Ep_init 33 = .ok (.return_, 1) := by decide +kernel
theorem q_Ep_init : aw_q1 y_Ep_init b_Ep_init 1 none 0 := ⟨k_337, k_78, ⟨by decide, by decide, by decide +kernel⟩, by decide⟩
def y_Ep_reckon : MethodName := ⟨"RescanDesk$Expression", "reckon", "([CIILRescanDesk$Text;)I"⟩
abbrev b_Ep_reckon : ByteArray := prog_8_method_2_code
theorem d_Ep_reckon_0 : decode b_Ep_reckon 0 = .ok (.aload_n 0, 1) := by decide +kernel
theorem d_Ep_reckon_1 : decode b_Ep_reckon 1 = .ok (.getfield 14, 3) := by decide +kernel
theorem d_Ep_reckon_4 : decode b_Ep_reckon 4 = .ok (.invokevirtual 31, 3) := by decide +kernel
theorem d_Ep_reckon_7 : decode b_Ep_reckon 7 = .ok (.iload_n 2, 1) := by decide +kernel
theorem d_Ep_reckon_8 : decode b_Ep_reckon 8 = .ok (.istore 5, 2) := by decide +kernel
theorem d_Ep_reckon_10 : decode b_Ep_reckon 10 = .ok (.iload 5, 2) := by decide +kernel
theorem d_Ep_reckon_12 : decode b_Ep_reckon 12 = .ok (.iload_n 3, 1) := by decide +kernel
theorem d_Ep_reckon_13 : decode b_Ep_reckon 13 = .ok (.if_icmp .ge 31, 3) := by decide +kernel
theorem d_Ep_reckon_16 : decode b_Ep_reckon 16 = .ok (.aload_n 1, 1) := by decide +kernel
theorem d_Ep_reckon_17 : decode b_Ep_reckon 17 = .ok (.iload 5, 2) := by decide +kernel
theorem d_Ep_reckon_19 : decode b_Ep_reckon 19 = .ok (.caload, 1) := by decide +kernel
theorem d_Ep_reckon_20 : decode b_Ep_reckon 20 = .ok (.invokestatic 34, 3) := by decide +kernel
theorem d_Ep_reckon_23 : decode b_Ep_reckon 23 = .ok (.ifCond .ne 15, 3) := by decide +kernel
theorem d_Ep_reckon_26 : decode b_Ep_reckon 26 = .ok (.aload_n 0, 1) := by decide +kernel
theorem d_Ep_reckon_27 : decode b_Ep_reckon 27 = .ok (.getfield 14, 3) := by decide +kernel
theorem d_Ep_reckon_30 : decode b_Ep_reckon 30 = .ok (.aload_n 1, 1) := by decide +kernel
theorem d_Ep_reckon_31 : decode b_Ep_reckon 31 = .ok (.iload 5, 2) := by decide +kernel
theorem d_Ep_reckon_33 : decode b_Ep_reckon 33 = .ok (.caload, 1) := by decide +kernel
theorem d_Ep_reckon_34 : decode b_Ep_reckon 34 = .ok (.invokevirtual 38, 3) := by decide +kernel
theorem d_Ep_reckon_37 : decode b_Ep_reckon 37 = .ok (.pop, 1) := by decide +kernel
theorem d_Ep_reckon_38 : decode b_Ep_reckon 38 = .ok (.iinc 5 1, 3) := by decide +kernel
theorem d_Ep_reckon_41 : decode b_Ep_reckon 41 = .ok (.goto (-31), 3) := by decide +kernel
theorem d_Ep_reckon_44 : decode b_Ep_reckon 44 = .ok (.aload_n 0, 1) := by decide +kernel
theorem d_Ep_reckon_45 : decode b_Ep_reckon 45 = .ok (.iconst 0, 1) := by decide +kernel
theorem d_Ep_reckon_46 : decode b_Ep_reckon 46 = .ok (.putfield 20, 3) := by decide +kernel
theorem d_Ep_reckon_49 : decode b_Ep_reckon 49 = .ok (.aload_n 0, 1) := by decide +kernel
theorem d_Ep_reckon_50 : decode b_Ep_reckon 50 = .ok (.iconst 0, 1) := by decide +kernel
theorem d_Ep_reckon_51 : decode b_Ep_reckon 51 = .ok (.putfield 24, 3) := by decide +kernel
theorem d_Ep_reckon_54 : decode b_Ep_reckon 54 = .ok (.aload_n 0, 1) := by decide +kernel
theorem d_Ep_reckon_55 : decode b_Ep_reckon 55 = .ok (.iconst 0, 1) := by decide +kernel
theorem d_Ep_reckon_56 : decode b_Ep_reckon 56 = .ok (.putfield 28, 3) := by decide +kernel
theorem d_Ep_reckon_59 : decode b_Ep_reckon 59 = .ok (.aload_n 0, 1) := by decide +kernel
theorem d_Ep_reckon_60 : decode b_Ep_reckon 60 = .ok (.iconst 1, 1) := by decide +kernel
theorem d_Ep_reckon_61 : decode b_Ep_reckon 61 = .ok (.iconst 0, 1) := by decide +kernel
theorem d_Ep_reckon_62 : decode b_Ep_reckon 62 = .ok (.invokevirtual 41, 3) := by decide +kernel
theorem d_Ep_reckon_65 : decode b_Ep_reckon 65 = .ok (.lstore 5, 2) := by decide +kernel
theorem d_Ep_reckon_67 : decode b_Ep_reckon 67 = .ok (.aload_n 0, 1) := by decide +kernel
theorem d_Ep_reckon_68 : decode b_Ep_reckon 68 = .ok (.getfield 24, 3) := by decide +kernel
theorem d_Ep_reckon_71 : decode b_Ep_reckon 71 = .ok (.ifCond .ne 17, 3) := by decide +kernel
theorem d_Ep_reckon_74 : decode b_Ep_reckon 74 = .ok (.aload_n 0, 1) := by decide +kernel
theorem d_Ep_reckon_75 : decode b_Ep_reckon 75 = .ok (.getfield 20, 3) := by decide +kernel
theorem d_Ep_reckon_78 : decode b_Ep_reckon 78 = .ok (.aload_n 0, 1) := by decide +kernel
theorem d_Ep_reckon_79 : decode b_Ep_reckon 79 = .ok (.getfield 14, 3) := by decide +kernel
theorem d_Ep_reckon_82 : decode b_Ep_reckon 82 = .ok (.getfield 45, 3) := by decide +kernel
theorem d_Ep_reckon_85 : decode b_Ep_reckon 85 = .ok (.if_icmp .ge 6, 3) := by decide +kernel
theorem d_Ep_reckon_88 : decode b_Ep_reckon 88 = .ok (.bipush 6, 2) := by decide +kernel
theorem d_Ep_reckon_90 : decode b_Ep_reckon 90 = .ok (.ireturn, 1) := by decide +kernel
theorem d_Ep_reckon_91 : decode b_Ep_reckon 91 = .ok (.aload_n 0, 1) := by decide +kernel
theorem d_Ep_reckon_92 : decode b_Ep_reckon 92 = .ok (.getfield 28, 3) := by decide +kernel
theorem d_Ep_reckon_95 : decode b_Ep_reckon 95 = .ok (.ifCond .eq 5, 3) := by decide +kernel
theorem d_Ep_reckon_98 : decode b_Ep_reckon 98 = .ok (.iconst 5, 1) := by decide +kernel
theorem d_Ep_reckon_99 : decode b_Ep_reckon 99 = .ok (.ireturn, 1) := by decide +kernel
theorem d_Ep_reckon_100 : decode b_Ep_reckon 100 = .ok (.aload 4, 2) := by decide +kernel
theorem d_Ep_reckon_102 : decode b_Ep_reckon 102 = .ok (.lload 5, 2) := by decide +kernel
theorem d_Ep_reckon_104 : decode b_Ep_reckon 104 = .ok (.invokevirtual 48, 3) := by decide +kernel
theorem d_Ep_reckon_107 : decode b_Ep_reckon 107 = .ok (.iconst 0, 1) := by decide +kernel
theorem d_Ep_reckon_108 : decode b_Ep_reckon 108 = .ok (.ireturn, 1) := by decide +kernel
theorem q_Ep_reckon : aw_q1 y_Ep_reckon b_Ep_reckon 7 (some .int) 4 := ⟨k_738, k_78, ⟨by decide, by decide, by decide +kernel⟩, by decide⟩
def y_Ep_level : MethodName := ⟨"RescanDesk$Expression", "level", "(II)J"⟩
abbrev b_Ep_level : ByteArray := prog_8_method_3_code
theorem d_Ep_level_0 : decode b_Ep_level 0 = .ok (.iload_n 1, 1) := by decide +kernel
theorem d_Ep_level_1 : decode b_Ep_level 1 = .ok (.iconst 4, 1) := by decide +kernel
theorem d_Ep_level_2 : decode b_Ep_level 2 = .ok (.if_icmp .le 9, 3) := by decide +kernel
theorem d_Ep_level_5 : decode b_Ep_level 5 = .ok (.aload_n 0, 1) := by decide +kernel
theorem d_Ep_level_6 : decode b_Ep_level 6 = .ok (.iload_n 2, 1) := by decide +kernel
theorem d_Ep_level_7 : decode b_Ep_level 7 = .ok (.invokevirtual 52, 3) := by decide +kernel
theorem d_Ep_level_10 : decode b_Ep_level 10 = .ok (.lreturn, 1) := by decide +kernel
theorem d_Ep_level_11 : decode b_Ep_level 11 = .ok (.aload_n 0, 1) := by decide +kernel
theorem d_Ep_level_12 : decode b_Ep_level 12 = .ok (.iload_n 1, 1) := by decide +kernel
theorem d_Ep_level_13 : decode b_Ep_level 13 = .ok (.iconst 1, 1) := by decide +kernel
theorem d_Ep_level_14 : decode b_Ep_level 14 = .ok (.iadd, 1) := by decide +kernel
theorem d_Ep_level_15 : decode b_Ep_level 15 = .ok (.iload_n 2, 1) := by decide +kernel
theorem d_Ep_level_16 : decode b_Ep_level 16 = .ok (.invokevirtual 41, 3) := by decide +kernel
theorem d_Ep_level_19 : decode b_Ep_level 19 = .ok (.lstore_n 3, 1) := by decide +kernel
theorem d_Ep_level_20 : decode b_Ep_level 20 = .ok (.aload_n 0, 1) := by decide +kernel
theorem d_Ep_level_21 : decode b_Ep_level 21 = .ok (.getfield 24, 3) := by decide +kernel
theorem d_Ep_level_24 : decode b_Ep_level 24 = .ok (.ifCond .ne 79, 3) := by decide +kernel
theorem d_Ep_level_27 : decode b_Ep_level 27 = .ok (.aload_n 0, 1) := by decide +kernel
theorem d_Ep_level_28 : decode b_Ep_level 28 = .ok (.getfield 20, 3) := by decide +kernel
theorem d_Ep_level_31 : decode b_Ep_level 31 = .ok (.aload_n 0, 1) := by decide +kernel
theorem d_Ep_level_32 : decode b_Ep_level 32 = .ok (.getfield 14, 3) := by decide +kernel
theorem d_Ep_level_35 : decode b_Ep_level 35 = .ok (.getfield 45, 3) := by decide +kernel
theorem d_Ep_level_38 : decode b_Ep_level 38 = .ok (.if_icmp .ge 65, 3) := by decide +kernel
theorem d_Ep_level_41 : decode b_Ep_level 41 = .ok (.aload_n 0, 1) := by decide +kernel
theorem d_Ep_level_42 : decode b_Ep_level 42 = .ok (.getfield 14, 3) := by decide +kernel
theorem d_Ep_level_45 : decode b_Ep_level 45 = .ok (.getfield 56, 3) := by decide +kernel
theorem d_Ep_level_48 : decode b_Ep_level 48 = .ok (.aload_n 0, 1) := by decide +kernel
theorem d_Ep_level_49 : decode b_Ep_level 49 = .ok (.getfield 20, 3) := by decide +kernel
theorem d_Ep_level_52 : decode b_Ep_level 52 = .ok (.caload, 1) := by decide +kernel
theorem d_Ep_level_53 : decode b_Ep_level 53 = .ok (.invokestatic 60, 3) := by decide +kernel
theorem d_Ep_level_56 : decode b_Ep_level 56 = .ok (.iload_n 1, 1) := by decide +kernel
theorem d_Ep_level_57 : decode b_Ep_level 57 = .ok (.if_icmp .ne 46, 3) := by decide +kernel
theorem d_Ep_level_60 : decode b_Ep_level 60 = .ok (.aload_n 0, 1) := by decide +kernel
theorem d_Ep_level_61 : decode b_Ep_level 61 = .ok (.getfield 14, 3) := by decide +kernel
theorem d_Ep_level_64 : decode b_Ep_level 64 = .ok (.getfield 56, 3) := by decide +kernel
theorem d_Ep_level_67 : decode b_Ep_level 67 = .ok (.aload_n 0, 1) := by decide +kernel
theorem d_Ep_level_68 : decode b_Ep_level 68 = .ok (.getfield 20, 3) := by decide +kernel
theorem d_Ep_level_71 : decode b_Ep_level 71 = .ok (.caload, 1) := by decide +kernel
theorem d_Ep_level_72 : decode b_Ep_level 72 = .ok (.istore 5, 2) := by decide +kernel
theorem d_Ep_level_74 : decode b_Ep_level 74 = .ok (.aload_n 0, 1) := by decide +kernel
theorem d_Ep_level_75 : decode b_Ep_level 75 = .ok (.dup, 1) := by decide +kernel
theorem d_Ep_level_76 : decode b_Ep_level 76 = .ok (.getfield 20, 3) := by decide +kernel
theorem d_Ep_level_79 : decode b_Ep_level 79 = .ok (.iconst 1, 1) := by decide +kernel
theorem d_Ep_level_80 : decode b_Ep_level 80 = .ok (.iadd, 1) := by decide +kernel
theorem d_Ep_level_81 : decode b_Ep_level 81 = .ok (.putfield 20, 3) := by decide +kernel
theorem d_Ep_level_84 : decode b_Ep_level 84 = .ok (.aload_n 0, 1) := by decide +kernel
theorem d_Ep_level_85 : decode b_Ep_level 85 = .ok (.iload 5, 2) := by decide +kernel
theorem d_Ep_level_87 : decode b_Ep_level 87 = .ok (.lload_n 3, 1) := by decide +kernel
theorem d_Ep_level_88 : decode b_Ep_level 88 = .ok (.aload_n 0, 1) := by decide +kernel
theorem d_Ep_level_89 : decode b_Ep_level 89 = .ok (.iload_n 1, 1) := by decide +kernel
theorem d_Ep_level_90 : decode b_Ep_level 90 = .ok (.iconst 1, 1) := by decide +kernel
theorem d_Ep_level_91 : decode b_Ep_level 91 = .ok (.iadd, 1) := by decide +kernel
theorem d_Ep_level_92 : decode b_Ep_level 92 = .ok (.iload_n 2, 1) := by decide +kernel
theorem d_Ep_level_93 : decode b_Ep_level 93 = .ok (.invokevirtual 41, 3) := by decide +kernel
theorem d_Ep_level_96 : decode b_Ep_level 96 = .ok (.invokevirtual 64, 3) := by decide +kernel
theorem d_Ep_level_99 : decode b_Ep_level 99 = .ok (.lstore_n 3, 1) := by decide +kernel
theorem d_Ep_level_100 : decode b_Ep_level 100 = .ok (.goto (-80), 3) := by decide +kernel
theorem d_Ep_level_103 : decode b_Ep_level 103 = .ok (.lload_n 3, 1) := by decide +kernel
theorem d_Ep_level_104 : decode b_Ep_level 104 = .ok (.lreturn, 1) := by decide +kernel
theorem q_Ep_level : aw_q1 y_Ep_level b_Ep_level 6 (some .long) 2 := ⟨k_745, k_78, ⟨by decide, by decide, by decide +kernel⟩, by decide⟩
def y_Ep_operand : MethodName := ⟨"RescanDesk$Expression", "operand", "(I)J"⟩
abbrev b_Ep_operand : ByteArray := prog_8_method_4_code
theorem d_Ep_operand_0 : decode b_Ep_operand 0 = .ok (.aload_n 0, 1) := by decide +kernel
theorem d_Ep_operand_1 : decode b_Ep_operand 1 = .ok (.getfield 20, 3) := by decide +kernel
theorem d_Ep_operand_4 : decode b_Ep_operand 4 = .ok (.aload_n 0, 1) := by decide +kernel
theorem d_Ep_operand_5 : decode b_Ep_operand 5 = .ok (.getfield 14, 3) := by decide +kernel
theorem d_Ep_operand_8 : decode b_Ep_operand 8 = .ok (.getfield 45, 3) := by decide +kernel
theorem d_Ep_operand_11 : decode b_Ep_operand 11 = .ok (.if_icmp .ge 18, 3) := by decide +kernel
theorem d_Ep_operand_14 : decode b_Ep_operand 14 = .ok (.aload_n 0, 1) := by decide +kernel
theorem d_Ep_operand_15 : decode b_Ep_operand 15 = .ok (.getfield 14, 3) := by decide +kernel
theorem d_Ep_operand_18 : decode b_Ep_operand 18 = .ok (.getfield 56, 3) := by decide +kernel
theorem d_Ep_operand_21 : decode b_Ep_operand 21 = .ok (.aload_n 0, 1) := by decide +kernel
theorem d_Ep_operand_22 : decode b_Ep_operand 22 = .ok (.getfield 20, 3) := by decide +kernel
theorem d_Ep_operand_25 : decode b_Ep_operand 25 = .ok (.caload, 1) := by decide +kernel
theorem d_Ep_operand_26 : decode b_Ep_operand 26 = .ok (.goto 4, 3) := by decide +kernel
theorem d_Ep_operand_29 : decode b_Ep_operand 29 = .ok (.iconst 0, 1) := by decide +kernel
theorem d_Ep_operand_30 : decode b_Ep_operand 30 = .ok (.istore_n 2, 1) := by decide +kernel
theorem d_Ep_operand_31 : decode b_Ep_operand 31 = .ok (.iload_n 2, 1) := by decide +kernel
theorem d_Ep_operand_32 : decode b_Ep_operand 32 = .ok (.bipush 45, 2) := by decide +kernel
theorem d_Ep_operand_34 : decode b_Ep_operand 34 = .ok (.if_icmp .eq 14, 3) := by decide +kernel
theorem d_Ep_operand_37 : decode b_Ep_operand 37 = .ok (.iload_n 2, 1) := by decide +kernel
theorem d_Ep_operand_38 : decode b_Ep_operand 38 = .ok (.bipush 40, 2) := by decide +kernel
theorem d_Ep_operand_40 : decode b_Ep_operand 40 = .ok (.if_icmp .eq 8, 3) := by decide +kernel
theorem d_Ep_operand_43 : decode b_Ep_operand 43 = .ok (.aload_n 0, 1) := by decide +kernel
theorem d_Ep_operand_44 : decode b_Ep_operand 44 = .ok (.invokevirtual 68, 3) := by decide +kernel
theorem d_Ep_operand_47 : decode b_Ep_operand 47 = .ok (.lreturn, 1) := by decide +kernel
theorem d_Ep_operand_48 : decode b_Ep_operand 48 = .ok (.iload_n 1, 1) := by decide +kernel
theorem d_Ep_operand_49 : decode b_Ep_operand 49 = .ok (.bipush 6, 2) := by decide +kernel
theorem d_Ep_operand_51 : decode b_Ep_operand 51 = .ok (.if_icmp .lt 10, 3) := by decide +kernel
theorem d_Ep_operand_54 : decode b_Ep_operand 54 = .ok (.aload_n 0, 1) := by decide +kernel
theorem d_Ep_operand_55 : decode b_Ep_operand 55 = .ok (.iconst 1, 1) := by decide +kernel
theorem d_Ep_operand_56 : decode b_Ep_operand 56 = .ok (.putfield 24, 3) := by decide +kernel
theorem d_Ep_operand_59 : decode b_Ep_operand 59 = .ok (.lconst 0, 1) := by decide +kernel
theorem d_Ep_operand_60 : decode b_Ep_operand 60 = .ok (.lreturn, 1) := by decide +kernel
theorem d_Ep_operand_61 : decode b_Ep_operand 61 = .ok (.aload_n 0, 1) := by decide +kernel
theorem d_Ep_operand_62 : decode b_Ep_operand 62 = .ok (.dup, 1) := by decide +kernel
theorem d_Ep_operand_63 : decode b_Ep_operand 63 = .ok (.getfield 20, 3) := by decide +kernel
theorem d_Ep_operand_66 : decode b_Ep_operand 66 = .ok (.iconst 1, 1) := by decide +kernel
theorem d_Ep_operand_67 : decode b_Ep_operand 67 = .ok (.iadd, 1) := by decide +kernel
theorem d_Ep_operand_68 : decode b_Ep_operand 68 = .ok (.putfield 20, 3) := by decide +kernel
theorem d_Ep_operand_71 : decode b_Ep_operand 71 = .ok (.iload_n 2, 1) := by decide +kernel
theorem d_Ep_operand_72 : decode b_Ep_operand 72 = .ok (.bipush 45, 2) := by decide +kernel
theorem d_Ep_operand_74 : decode b_Ep_operand 74 = .ok (.if_icmp .ne 12, 3) := by decide +kernel
theorem d_Ep_operand_77 : decode b_Ep_operand 77 = .ok (.aload_n 0, 1) := by decide +kernel
theorem d_Ep_operand_78 : decode b_Ep_operand 78 = .ok (.iload_n 1, 1) := by decide +kernel
theorem d_Ep_operand_79 : decode b_Ep_operand 79 = .ok (.iconst 1, 1) := by decide +kernel
theorem d_Ep_operand_80 : decode b_Ep_operand 80 = .ok (.iadd, 1) := by decide +kernel
theorem d_Ep_operand_81 : decode b_Ep_operand 81 = .ok (.invokevirtual 52, 3) := by decide +kernel
theorem d_Ep_operand_84 : decode b_Ep_operand 84 = .ok (.lneg, 1) := by decide +kernel
theorem d_Ep_operand_85 : decode b_Ep_operand 85 = .ok (.lreturn, 1) := by decide +kernel
theorem d_Ep_operand_86 : decode b_Ep_operand 86 = .ok (.aload_n 0, 1) := by decide +kernel
theorem d_Ep_operand_87 : decode b_Ep_operand 87 = .ok (.iconst 1, 1) := by decide +kernel
theorem d_Ep_operand_88 : decode b_Ep_operand 88 = .ok (.iload_n 1, 1) := by decide +kernel
theorem d_Ep_operand_89 : decode b_Ep_operand 89 = .ok (.iconst 1, 1) := by decide +kernel
theorem d_Ep_operand_90 : decode b_Ep_operand 90 = .ok (.iadd, 1) := by decide +kernel
theorem d_Ep_operand_91 : decode b_Ep_operand 91 = .ok (.invokevirtual 41, 3) := by decide +kernel
theorem d_Ep_operand_94 : decode b_Ep_operand 94 = .ok (.lstore_n 3, 1) := by decide +kernel
theorem d_Ep_operand_95 : decode b_Ep_operand 95 = .ok (.aload_n 0, 1) := by decide +kernel
theorem d_Ep_operand_96 : decode b_Ep_operand 96 = .ok (.getfield 20, 3) := by decide +kernel
theorem d_Ep_operand_99 : decode b_Ep_operand 99 = .ok (.aload_n 0, 1) := by decide +kernel
theorem d_Ep_operand_100 : decode b_Ep_operand 100 = .ok (.getfield 14, 3) := by decide +kernel
theorem d_Ep_operand_103 : decode b_Ep_operand 103 = .ok (.getfield 45, 3) := by decide +kernel
theorem d_Ep_operand_106 : decode b_Ep_operand 106 = .ok (.if_icmp .ge 33, 3) := by decide +kernel
theorem d_Ep_operand_109 : decode b_Ep_operand 109 = .ok (.aload_n 0, 1) := by decide +kernel
theorem d_Ep_operand_110 : decode b_Ep_operand 110 = .ok (.getfield 14, 3) := by decide +kernel
theorem d_Ep_operand_113 : decode b_Ep_operand 113 = .ok (.getfield 56, 3) := by decide +kernel
theorem d_Ep_operand_116 : decode b_Ep_operand 116 = .ok (.aload_n 0, 1) := by decide +kernel
theorem d_Ep_operand_117 : decode b_Ep_operand 117 = .ok (.getfield 20, 3) := by decide +kernel
theorem d_Ep_operand_120 : decode b_Ep_operand 120 = .ok (.caload, 1) := by decide +kernel
theorem d_Ep_operand_121 : decode b_Ep_operand 121 = .ok (.bipush 41, 2) := by decide +kernel
theorem d_Ep_operand_123 : decode b_Ep_operand 123 = .ok (.if_icmp .ne 16, 3) := by decide +kernel
theorem d_Ep_operand_126 : decode b_Ep_operand 126 = .ok (.aload_n 0, 1) := by decide +kernel
theorem d_Ep_operand_127 : decode b_Ep_operand 127 = .ok (.dup, 1) := by decide +kernel
theorem d_Ep_operand_128 : decode b_Ep_operand 128 = .ok (.getfield 20, 3) := by decide +kernel
theorem d_Ep_operand_131 : decode b_Ep_operand 131 = .ok (.iconst 1, 1) := by decide +kernel
theorem d_Ep_operand_132 : decode b_Ep_operand 132 = .ok (.iadd, 1) := by decide +kernel
theorem d_Ep_operand_133 : decode b_Ep_operand 133 = .ok (.putfield 20, 3) := by decide +kernel
theorem d_Ep_operand_136 : decode b_Ep_operand 136 = .ok (.goto 8, 3) := by decide +kernel
theorem d_Ep_operand_139 : decode b_Ep_operand 139 = .ok (.aload_n 0, 1) := by decide +kernel
theorem d_Ep_operand_140 : decode b_Ep_operand 140 = .ok (.iconst 1, 1) := by decide +kernel
theorem d_Ep_operand_141 : decode b_Ep_operand 141 = .ok (.putfield 24, 3) := by decide +kernel
theorem d_Ep_operand_144 : decode b_Ep_operand 144 = .ok (.lload_n 3, 1) := by decide +kernel
theorem d_Ep_operand_145 : decode b_Ep_operand 145 = .ok (.lreturn, 1) := by decide +kernel
theorem q_Ep_operand : aw_q1 y_Ep_operand b_Ep_operand 5 (some .long) 1 := ⟨k_749, k_78, ⟨by decide, by decide, by decide +kernel⟩, by decide⟩
def y_Ep_number : MethodName := ⟨"RescanDesk$Expression", "number", "()J"⟩
abbrev b_Ep_number : ByteArray := prog_8_method_5_code
theorem d_Ep_number_0 : decode b_Ep_number 0 = .ok (.aload_n 0, 1) := by decide +kernel
theorem d_Ep_number_1 : decode b_Ep_number 1 = .ok (.getfield 20, 3) := by decide +kernel
theorem d_Ep_number_4 : decode b_Ep_number 4 = .ok (.istore_n 1, 1) := by decide +kernel
theorem d_Ep_number_5 : decode b_Ep_number 5 = .ok (.lconst 0, 1) := by decide +kernel
theorem d_Ep_number_6 : decode b_Ep_number 6 = .ok (.lstore_n 2, 1) := by decide +kernel
theorem d_Ep_number_7 : decode b_Ep_number 7 = .ok (.aload_n 0, 1) := by decide +kernel
theorem d_Ep_number_8 : decode b_Ep_number 8 = .ok (.getfield 20, 3) := by decide +kernel
theorem d_Ep_number_11 : decode b_Ep_number 11 = .ok (.aload_n 0, 1) := by decide +kernel
theorem d_Ep_number_12 : decode b_Ep_number 12 = .ok (.getfield 14, 3) := by decide +kernel
theorem d_Ep_number_15 : decode b_Ep_number 15 = .ok (.getfield 45, 3) := by decide +kernel
theorem d_Ep_number_18 : decode b_Ep_number 18 = .ok (.if_icmp .ge 57, 3) := by decide +kernel
theorem d_Ep_number_21 : decode b_Ep_number 21 = .ok (.aload_n 0, 1) := by decide +kernel
theorem d_Ep_number_22 : decode b_Ep_number 22 = .ok (.getfield 14, 3) := by decide +kernel
theorem d_Ep_number_25 : decode b_Ep_number 25 = .ok (.getfield 56, 3) := by decide +kernel
theorem d_Ep_number_28 : decode b_Ep_number 28 = .ok (.aload_n 0, 1) := by decide +kernel
theorem d_Ep_number_29 : decode b_Ep_number 29 = .ok (.getfield 20, 3) := by decide +kernel
theorem d_Ep_number_32 : decode b_Ep_number 32 = .ok (.caload, 1) := by decide +kernel
theorem d_Ep_number_33 : decode b_Ep_number 33 = .ok (.invokestatic 72, 3) := by decide +kernel
theorem d_Ep_number_36 : decode b_Ep_number 36 = .ok (.ifCond .eq 39, 3) := by decide +kernel
theorem d_Ep_number_39 : decode b_Ep_number 39 = .ok (.lload_n 2, 1) := by decide +kernel
theorem d_Ep_number_40 : decode b_Ep_number 40 = .ok (.ldc2_w 75, 3) := by decide +kernel
theorem d_Ep_number_43 : decode b_Ep_number 43 = .ok (.lmul, 1) := by decide +kernel
theorem d_Ep_number_44 : decode b_Ep_number 44 = .ok (.aload_n 0, 1) := by decide +kernel
theorem d_Ep_number_45 : decode b_Ep_number 45 = .ok (.getfield 14, 3) := by decide +kernel
theorem d_Ep_number_48 : decode b_Ep_number 48 = .ok (.getfield 56, 3) := by decide +kernel
theorem d_Ep_number_51 : decode b_Ep_number 51 = .ok (.aload_n 0, 1) := by decide +kernel
theorem d_Ep_number_52 : decode b_Ep_number 52 = .ok (.getfield 20, 3) := by decide +kernel
theorem d_Ep_number_55 : decode b_Ep_number 55 = .ok (.caload, 1) := by decide +kernel
theorem d_Ep_number_56 : decode b_Ep_number 56 = .ok (.bipush 48, 2) := by decide +kernel
theorem d_Ep_number_58 : decode b_Ep_number 58 = .ok (.isub, 1) := by decide +kernel
theorem d_Ep_number_59 : decode b_Ep_number 59 = .ok (.i2l, 1) := by decide +kernel
theorem d_Ep_number_60 : decode b_Ep_number 60 = .ok (.ladd, 1) := by decide +kernel
theorem d_Ep_number_61 : decode b_Ep_number 61 = .ok (.lstore_n 2, 1) := by decide +kernel
theorem d_Ep_number_62 : decode b_Ep_number 62 = .ok (.aload_n 0, 1) := by decide +kernel
theorem d_Ep_number_63 : decode b_Ep_number 63 = .ok (.dup, 1) := by decide +kernel
theorem d_Ep_number_64 : decode b_Ep_number 64 = .ok (.getfield 20, 3) := by decide +kernel
theorem d_Ep_number_67 : decode b_Ep_number 67 = .ok (.iconst 1, 1) := by decide +kernel
theorem d_Ep_number_68 : decode b_Ep_number 68 = .ok (.iadd, 1) := by decide +kernel
theorem d_Ep_number_69 : decode b_Ep_number 69 = .ok (.putfield 20, 3) := by decide +kernel
theorem d_Ep_number_72 : decode b_Ep_number 72 = .ok (.goto (-65), 3) := by decide +kernel
theorem d_Ep_number_75 : decode b_Ep_number 75 = .ok (.aload_n 0, 1) := by decide +kernel
theorem d_Ep_number_76 : decode b_Ep_number 76 = .ok (.getfield 20, 3) := by decide +kernel
theorem d_Ep_number_79 : decode b_Ep_number 79 = .ok (.iload_n 1, 1) := by decide +kernel
theorem d_Ep_number_80 : decode b_Ep_number 80 = .ok (.if_icmp .ne 8, 3) := by decide +kernel
theorem d_Ep_number_83 : decode b_Ep_number 83 = .ok (.aload_n 0, 1) := by decide +kernel
theorem d_Ep_number_84 : decode b_Ep_number 84 = .ok (.iconst 1, 1) := by decide +kernel
theorem d_Ep_number_85 : decode b_Ep_number 85 = .ok (.putfield 24, 3) := by decide +kernel
theorem d_Ep_number_88 : decode b_Ep_number 88 = .ok (.lload_n 2, 1) := by decide +kernel
theorem d_Ep_number_89 : decode b_Ep_number 89 = .ok (.lreturn, 1) := by decide +kernel
theorem q_Ep_number : aw_q1 y_Ep_number b_Ep_number 4 (some .long) 0 := ⟨k_753, k_78, ⟨by decide, by decide, by decide +kernel⟩, by decide⟩
def y_Ep_strengthOf : MethodName := ⟨"RescanDesk$Expression", "strengthOf", "(C)I"⟩
abbrev b_Ep_strengthOf : ByteArray := prog_8_method_6_code
theorem d_Ep_strengthOf_0 : decode b_Ep_strengthOf 0 = .ok (.iload_n 0, 1) := by decide +kernel
theorem d_Ep_strengthOf_1 : decode b_Ep_strengthOf 1 = .ok (.lookupswitch 99 #[(37, 97), (38, 91), (42, 97), (43, 95), (45, 95), (47, 97), (60, 93), (61, 93), (62, 93), (124, 91)], 91) := by decide +kernel
theorem d_Ep_strengthOf_92 : decode b_Ep_strengthOf 92 = .ok (.iconst 1, 1) := by decide +kernel
theorem d_Ep_strengthOf_93 : decode b_Ep_strengthOf 93 = .ok (.ireturn, 1) := by decide +kernel
theorem d_Ep_strengthOf_94 : decode b_Ep_strengthOf 94 = .ok (.iconst 2, 1) := by decide +kernel
theorem d_Ep_strengthOf_95 : decode b_Ep_strengthOf 95 = .ok (.ireturn, 1) := by decide +kernel
theorem d_Ep_strengthOf_96 : decode b_Ep_strengthOf 96 = .ok (.iconst 3, 1) := by decide +kernel
theorem d_Ep_strengthOf_97 : decode b_Ep_strengthOf 97 = .ok (.ireturn, 1) := by decide +kernel
theorem d_Ep_strengthOf_98 : decode b_Ep_strengthOf 98 = .ok (.iconst 4, 1) := by decide +kernel
theorem d_Ep_strengthOf_99 : decode b_Ep_strengthOf 99 = .ok (.ireturn, 1) := by decide +kernel
theorem d_Ep_strengthOf_100 : decode b_Ep_strengthOf 100 = .ok (.iconst 0, 1) := by decide +kernel
theorem d_Ep_strengthOf_101 : decode b_Ep_strengthOf 101 = .ok (.ireturn, 1) := by decide +kernel
theorem q_Ep_strengthOf : aw_q1 y_Ep_strengthOf b_Ep_strengthOf 1 (some .int) 1 := ⟨k_758, k_78, ⟨by decide, by decide, by decide +kernel⟩, by decide⟩
def y_Ep_combine : MethodName := ⟨"RescanDesk$Expression", "combine", "(CJJ)J"⟩
abbrev b_Ep_combine : ByteArray := prog_8_method_7_code
theorem d_Ep_combine_0 : decode b_Ep_combine 0 = .ok (.iload_n 1, 1) := by decide +kernel
theorem d_Ep_combine_1 : decode b_Ep_combine 1 = .ok (.lookupswitch 182 #[(38, 75), (42, 177), (43, 167), (45, 172), (60, 119), (61, 151), (62, 135), (124, 97)], 75) := by decide +kernel
theorem d_Ep_combine_76 : decode b_Ep_combine 76 = .ok (.lload_n 2, 1) := by decide +kernel
theorem d_Ep_combine_77 : decode b_Ep_combine 77 = .ok (.lconst 0, 1) := by decide +kernel
theorem d_Ep_combine_78 : decode b_Ep_combine 78 = .ok (.lcmp, 1) := by decide +kernel
theorem d_Ep_combine_79 : decode b_Ep_combine 79 = .ok (.ifCond .eq 14, 3) := by decide +kernel
theorem d_Ep_combine_82 : decode b_Ep_combine 82 = .ok (.lload 4, 2) := by decide +kernel
theorem d_Ep_combine_84 : decode b_Ep_combine 84 = .ok (.lconst 0, 1) := by decide +kernel
theorem d_Ep_combine_85 : decode b_Ep_combine 85 = .ok (.lcmp, 1) := by decide +kernel
theorem d_Ep_combine_86 : decode b_Ep_combine 86 = .ok (.ifCond .eq 7, 3) := by decide +kernel
theorem d_Ep_combine_89 : decode b_Ep_combine 89 = .ok (.iconst 1, 1) := by decide +kernel
theorem d_Ep_combine_90 : decode b_Ep_combine 90 = .ok (.goto 4, 3) := by decide +kernel
theorem d_Ep_combine_93 : decode b_Ep_combine 93 = .ok (.iconst 0, 1) := by decide +kernel
theorem d_Ep_combine_94 : decode b_Ep_combine 94 = .ok (.invokestatic 77, 3) := by decide +kernel
theorem d_Ep_combine_97 : decode b_Ep_combine 97 = .ok (.lreturn, 1) := by decide +kernel
theorem d_Ep_combine_98 : decode b_Ep_combine 98 = .ok (.lload_n 2, 1) := by decide +kernel
theorem d_Ep_combine_99 : decode b_Ep_combine 99 = .ok (.lconst 0, 1) := by decide +kernel
theorem d_Ep_combine_100 : decode b_Ep_combine 100 = .ok (.lcmp, 1) := by decide +kernel
theorem d_Ep_combine_101 : decode b_Ep_combine 101 = .ok (.ifCond .ne 10, 3) := by decide +kernel
theorem d_Ep_combine_104 : decode b_Ep_combine 104 = .ok (.lload 4, 2) := by decide +kernel
theorem d_Ep_combine_106 : decode b_Ep_combine 106 = .ok (.lconst 0, 1) := by decide +kernel
theorem d_Ep_combine_107 : decode b_Ep_combine 107 = .ok (.lcmp, 1) := by decide +kernel
theorem d_Ep_combine_108 : decode b_Ep_combine 108 = .ok (.ifCond .eq 7, 3) := by decide +kernel
theorem d_Ep_combine_111 : decode b_Ep_combine 111 = .ok (.iconst 1, 1) := by decide +kernel
theorem d_Ep_combine_112 : decode b_Ep_combine 112 = .ok (.goto 4, 3) := by decide +kernel
theorem d_Ep_combine_115 : decode b_Ep_combine 115 = .ok (.iconst 0, 1) := by decide +kernel
theorem d_Ep_combine_116 : decode b_Ep_combine 116 = .ok (.invokestatic 77, 3) := by decide +kernel
theorem d_Ep_combine_119 : decode b_Ep_combine 119 = .ok (.lreturn, 1) := by decide +kernel
theorem d_Ep_combine_120 : decode b_Ep_combine 120 = .ok (.lload_n 2, 1) := by decide +kernel
theorem d_Ep_combine_121 : decode b_Ep_combine 121 = .ok (.lload 4, 2) := by decide +kernel
theorem d_Ep_combine_123 : decode b_Ep_combine 123 = .ok (.lcmp, 1) := by decide +kernel
theorem d_Ep_combine_124 : decode b_Ep_combine 124 = .ok (.ifCond .ge 7, 3) := by decide +kernel
theorem d_Ep_combine_127 : decode b_Ep_combine 127 = .ok (.iconst 1, 1) := by decide +kernel
theorem d_Ep_combine_128 : decode b_Ep_combine 128 = .ok (.goto 4, 3) := by decide +kernel
theorem d_Ep_combine_131 : decode b_Ep_combine 131 = .ok (.iconst 0, 1) := by decide +kernel
theorem d_Ep_combine_132 : decode b_Ep_combine 132 = .ok (.invokestatic 77, 3) := by decide +kernel
theorem d_Ep_combine_135 : decode b_Ep_combine 135 = .ok (.lreturn, 1) := by decide +kernel
theorem d_Ep_combine_136 : decode b_Ep_combine 136 = .ok (.lload_n 2, 1) := by decide +kernel
theorem d_Ep_combine_137 : decode b_Ep_combine 137 = .ok (.lload 4, 2) := by decide +kernel
theorem d_Ep_combine_139 : decode b_Ep_combine 139 = .ok (.lcmp, 1) := by decide +kernel
theorem d_Ep_combine_140 : decode b_Ep_combine 140 = .ok (.ifCond .le 7, 3) := by decide +kernel
theorem d_Ep_combine_143 : decode b_Ep_combine 143 = .ok (.iconst 1, 1) := by decide +kernel
theorem d_Ep_combine_144 : decode b_Ep_combine 144 = .ok (.goto 4, 3) := by decide +kernel
theorem d_Ep_combine_147 : decode b_Ep_combine 147 = .ok (.iconst 0, 1) := by decide +kernel
theorem d_Ep_combine_148 : decode b_Ep_combine 148 = .ok (.invokestatic 77, 3) := by decide +kernel
theorem d_Ep_combine_151 : decode b_Ep_combine 151 = .ok (.lreturn, 1) := by decide +kernel
theorem d_Ep_combine_152 : decode b_Ep_combine 152 = .ok (.lload_n 2, 1) := by decide +kernel
theorem d_Ep_combine_153 : decode b_Ep_combine 153 = .ok (.lload 4, 2) := by decide +kernel
theorem d_Ep_combine_155 : decode b_Ep_combine 155 = .ok (.lcmp, 1) := by decide +kernel
theorem d_Ep_combine_156 : decode b_Ep_combine 156 = .ok (.ifCond .ne 7, 3) := by decide +kernel
theorem d_Ep_combine_159 : decode b_Ep_combine 159 = .ok (.iconst 1, 1) := by decide +kernel
theorem d_Ep_combine_160 : decode b_Ep_combine 160 = .ok (.goto 4, 3) := by decide +kernel
theorem d_Ep_combine_163 : decode b_Ep_combine 163 = .ok (.iconst 0, 1) := by decide +kernel
theorem d_Ep_combine_164 : decode b_Ep_combine 164 = .ok (.invokestatic 77, 3) := by decide +kernel
theorem d_Ep_combine_167 : decode b_Ep_combine 167 = .ok (.lreturn, 1) := by decide +kernel
theorem d_Ep_combine_168 : decode b_Ep_combine 168 = .ok (.lload_n 2, 1) := by decide +kernel
theorem d_Ep_combine_169 : decode b_Ep_combine 169 = .ok (.lload 4, 2) := by decide +kernel
theorem d_Ep_combine_171 : decode b_Ep_combine 171 = .ok (.ladd, 1) := by decide +kernel
theorem d_Ep_combine_172 : decode b_Ep_combine 172 = .ok (.lreturn, 1) := by decide +kernel
theorem d_Ep_combine_173 : decode b_Ep_combine 173 = .ok (.lload_n 2, 1) := by decide +kernel
theorem d_Ep_combine_174 : decode b_Ep_combine 174 = .ok (.lload 4, 2) := by decide +kernel
theorem d_Ep_combine_176 : decode b_Ep_combine 176 = .ok (.lsub, 1) := by decide +kernel
theorem d_Ep_combine_177 : decode b_Ep_combine 177 = .ok (.lreturn, 1) := by decide +kernel
theorem d_Ep_combine_178 : decode b_Ep_combine 178 = .ok (.lload_n 2, 1) := by decide +kernel
theorem d_Ep_combine_179 : decode b_Ep_combine 179 = .ok (.lload 4, 2) := by decide +kernel
theorem d_Ep_combine_181 : decode b_Ep_combine 181 = .ok (.lmul, 1) := by decide +kernel
theorem d_Ep_combine_182 : decode b_Ep_combine 182 = .ok (.lreturn, 1) := by decide +kernel
theorem d_Ep_combine_183 : decode b_Ep_combine 183 = .ok (.aload_n 0, 1) := by decide +kernel
theorem d_Ep_combine_184 : decode b_Ep_combine 184 = .ok (.iload_n 1, 1) := by decide +kernel
theorem d_Ep_combine_185 : decode b_Ep_combine 185 = .ok (.lload_n 2, 1) := by decide +kernel
theorem d_Ep_combine_186 : decode b_Ep_combine 186 = .ok (.lload 4, 2) := by decide +kernel
theorem d_Ep_combine_188 : decode b_Ep_combine 188 = .ok (.invokevirtual 81, 3) := by decide +kernel
theorem d_Ep_combine_191 : decode b_Ep_combine 191 = .ok (.lreturn, 1) := by decide +kernel
theorem q_Ep_combine : aw_q1 y_Ep_combine b_Ep_combine 6 (some .long) 3 := ⟨k_762, k_78, ⟨by decide, by decide, by decide +kernel⟩, by decide⟩
def y_Ep_divide : MethodName := ⟨"RescanDesk$Expression", "divide", "(CJJ)J"⟩
abbrev b_Ep_divide : ByteArray := prog_8_method_8_code
theorem d_Ep_divide_0 : decode b_Ep_divide 0 = .ok (.lload 4, 2) := by decide +kernel
theorem d_Ep_divide_2 : decode b_Ep_divide 2 = .ok (.lconst 0, 1) := by decide +kernel
theorem d_Ep_divide_3 : decode b_Ep_divide 3 = .ok (.lcmp, 1) := by decide +kernel
theorem d_Ep_divide_4 : decode b_Ep_divide 4 = .ok (.ifCond .ne 10, 3) := by decide +kernel
theorem d_Ep_divide_7 : decode b_Ep_divide 7 = .ok (.aload_n 0, 1) := by decide +kernel
theorem d_Ep_divide_8 : decode b_Ep_divide 8 = .ok (.iconst 1, 1) := by decide +kernel
theorem d_Ep_divide_9 : decode b_Ep_divide 9 = .ok (.putfield 28, 3) := by decide +kernel
theorem d_Ep_divide_12 : decode b_Ep_divide 12 = .ok (.lconst 0, 1) := by decide +kernel
theorem d_Ep_divide_13 : decode b_Ep_divide 13 = .ok (.lreturn, 1) := by decide +kernel
theorem d_Ep_divide_14 : decode b_Ep_divide 14 = .ok (.iload_n 1, 1) := by decide +kernel
theorem d_Ep_divide_15 : decode b_Ep_divide 15 = .ok (.bipush 47, 2) := by decide +kernel
theorem d_Ep_divide_17 : decode b_Ep_divide 17 = .ok (.if_icmp .ne 10, 3) := by decide +kernel
theorem d_Ep_divide_20 : decode b_Ep_divide 20 = .ok (.lload_n 2, 1) := by decide +kernel
theorem d_Ep_divide_21 : decode b_Ep_divide 21 = .ok (.lload 4, 2) := by decide +kernel
theorem d_Ep_divide_23 : decode b_Ep_divide 23 = .ok (.ldiv, 1) := by decide +kernel
theorem d_Ep_divide_24 : decode b_Ep_divide 24 = .ok (.goto 7, 3) := by decide +kernel
theorem d_Ep_divide_27 : decode b_Ep_divide 27 = .ok (.lload_n 2, 1) := by decide +kernel
theorem d_Ep_divide_28 : decode b_Ep_divide 28 = .ok (.lload 4, 2) := by decide +kernel
theorem d_Ep_divide_30 : decode b_Ep_divide 30 = .ok (.lrem, 1) := by decide +kernel
theorem d_Ep_divide_31 : decode b_Ep_divide 31 = .ok (.lreturn, 1) := by decide +kernel
theorem q_Ep_divide : aw_q1 y_Ep_divide b_Ep_divide 6 (some .long) 3 := ⟨k_769, k_78, ⟨by decide, by decide, by decide +kernel⟩, by decide⟩
def y_Ep_truth : MethodName := ⟨"RescanDesk$Expression", "truth", "(Z)J"⟩
abbrev b_Ep_truth : ByteArray := prog_8_method_9_code
theorem d_Ep_truth_0 : decode b_Ep_truth 0 = .ok (.iload_n 0, 1) := by decide +kernel
theorem d_Ep_truth_1 : decode b_Ep_truth 1 = .ok (.ifCond .eq 7, 3) := by decide +kernel
theorem d_Ep_truth_4 : decode b_Ep_truth 4 = .ok (.lconst 1, 1) := by decide +kernel
theorem d_Ep_truth_5 : decode b_Ep_truth 5 = .ok (.goto 4, 3) := by decide +kernel
theorem d_Ep_truth_8 : decode b_Ep_truth 8 = .ok (.lconst 0, 1) := by decide +kernel
theorem d_Ep_truth_9 : decode b_Ep_truth 9 = .ok (.lreturn, 1) := by decide +kernel
theorem q_Ep_truth : aw_q1 y_Ep_truth b_Ep_truth 1 (some .long) 1 := ⟨k_765, k_78, ⟨by decide, by decide, by decide +kernel⟩, by decide⟩
/-- where it reads, whether the text is wrong, whether it divided by 0 -/
abbrev ES : Type := Nat × Bool × Bool
def wE (G : aw_G) (w : Nat → va_E) (x : ES) : Nat → va_E := aw_up w 413 (aObj 9 [rf G 414, .int (nI x.1), .int (nI (bN x.2.1)), .int (nI (bN x.2.2))])
theorem wE_at (G : aw_G) (w : Nat → va_E) (x : ES) : wE G w x 413 = aObj 9 [rf G 414, .int (nI x.1), .int (nI (bN x.2.1)), .int (nI (bN x.2.2))] := aw_up_eq _ _ _
theorem wE_ne (G : aw_G) (w : Nat → va_E) (x : ES) {y : Nat} (h : y ≠ 413) : wE G w x y = w y := aw_up_ne _ _ h
theorem wE_up (G : aw_G) (w : Nat → va_E) (x y : ES) : aw_up (wE G w x) 413 (aObj 9 [rf G 414, .int (nI y.1), .int (nI (bN y.2.1)), .int (nI (bN y.2.2))]) = wE G w y := aw_up_up _ _ _ _
def strS (c : Nat) : Nat := if c = 42 ∨ c = 47 ∨ c = 37 then 4 else if c = 43 ∨ c = 45 then 3 else if c = 60 ∨ c = 62 ∨ c = 61 then 2 else if c = 38 ∨ c = 124 then 1 else 0
/-- two numbers made one; whether that was a division by 0 -/
def cmbS (o : Nat) (a b : Int64) : Int64 × Bool :=
  if o = 38 then (if a ≠ 0 ∧ b ≠ 0 then 1 else 0, false) else if o = 124 then (if a ≠ 0 ∨ b ≠ 0 then 1 else 0, false) else if o = 60 then (if a < b then 1 else 0, false) else if o = 62 then (if b < a then 1 else 0, false) else if o = 61 then (if a = b then 1 else 0, false)
  else if o = 43 then (a + b, false) else if o = 45 then (a - b, false) else if o = 42 then (a * b, false) else if b = 0 then (0, true) else if o = 47 then (a / b, false) else (a - a / b * b, false)
/-- the number that the text begins with, and its length -/
def numV : Int64 → List Nat → Int64 × Nat
  | v, [] => (v, 0)
  | v, c :: r => if isDig c = true then ((numV (v * 10 + lN (c - 48)) r).1, (numV (v * 10 + lN (c - 48)) r).2 + 1) else (v, 0)
theorem numV_le : ∀ (v : Int64) (l : List Nat), (numV v l).2 ≤ l.length
  | v, [] => by simp [numV]
  | v, c :: r => by
    unfold numV
    split
    · have := numV_le (v * 10 + lN (c - 48)) r; simp; omega
    · simp
section
variable {G : aw_G} {nx d : Nat} {w : Nat → va_E}
theorem c_Ep_truth {b : Bool} : AC G y_Ep_truth b_Ep_truth 1 (some .long) d false [.int (nI (bN b))] nx w 0 0 (fun r w' nx' => nx' = nx ∧ w' = w ∧ r = some (.long (if b = true then 1 else 0))) := by
  have hb := bN_lt b
  refine AC.ofW (by decide) (Nat.le_of_ble_eq_true rfl) ?_
  intro E P hP Y X
  have X : aw_X G "RescanDesk$Expression" b_Ep_truth 1 (some .long) "truth" _ _ _ _ _ E := X
  refine AW.eql (lv' := [(0, _)]) (by rfl) ?_
  refine aw_iload_n (pc := 0) X d_Ep_truth_0 (by rfl) ?_
  refine aw_if_eqN (pc := 1) X (tgt := 8) d_Ep_truth_1 (by rfl) (by omega) (fun h1 => ?_) (fun h1 => ?_)
  -- br 1 lv=0:n st=
  · refine aw_lconst (pc := 8) X (v := 0) d_Ep_truth_8 (by decide) ?_
    refine aw_lret Y X rfl d_Ep_truth_9 (by omega) (by omega) (hP _ _ _ ?_)
    -- ret 9 lv=0:n st=l
    exact ⟨rfl, rfl, by rw [bN_eq.mp h1]; rfl⟩
  · refine aw_lconst (pc := 4) X (v := 1) d_Ep_truth_4 (by decide) ?_
    refine aw_goto (pc := 5) X (tgt := 9) d_Ep_truth_5 (by rfl) ?_
    refine aw_lret Y X rfl d_Ep_truth_9 (by omega) (by omega) (hP _ _ _ ?_)
    -- ret 9 lv=0:n st=l
    exact ⟨rfl, rfl, by rw [bN_ne.mp h1]; rfl⟩
theorem c_Ep_divide {x : ES} {o : Nat} {a b : Int64} (hnx : 414 ≤ nx) (ho : o < 65536) : AC G y_Ep_divide b_Ep_divide 6 (some .long) d false [rf G 413, .int (nI o), .long a, .long b] nx (wE G w x) 0 0 (fun r w' nx' => nx' = nx ∧ ((b = 0 ∧ w' = wE G w (x.1, x.2.1, true) ∧ r = some (.long 0)) ∨ (b ≠ 0 ∧ w' = wE G w x ∧ r = some (.long (if o = 47 then a / b else a - a / b * b))))) := by
  have e1 := wE_at G w x
  refine AC.ofW (by decide) (Nat.le_of_ble_eq_true rfl) ?_
  intro E P hP Y X
  have X : aw_X G "RescanDesk$Expression" b_Ep_divide 6 (some .long) "divide" _ _ _ _ _ E := X
  refine AW.eql (lv' := [(0, _), (1, _), (2, _), (4, _)]) (by rfl) ?_
  refine aw_lload (pc := 0) X d_Ep_divide_0 (by rfl) ?_
  refine aw_lconst (pc := 2) X (v := 0) d_Ep_divide_2 (by decide) ?_
  refine aw_lcmp (pc := 3) X d_Ep_divide_3 ?_
  refine aw_if_ne (pc := 4) X (tgt := 14) d_Ep_divide_4 (by rfl) (fun h4 => ?_) (fun h4 => ?_)
  -- br 4 lv=0:r,1:n,2:l,4:l st=
  · have hb : ¬ b = 0 := fun q => h4 ((lg_eq0 _ _).mpr q)
    refine aw_iload_n (pc := 14) X d_Ep_divide_14 (by rfl) ?_
    refine aw_bipushN (pc := 15) X 47 d_Ep_divide_15 (by decide) ?_
    refine aw_icmp_neN (pc := 17) X (tgt := 27) d_Ep_divide_17 (by rfl) (by omega) (by omega) (fun h17 => ?_) (fun h17 => ?_)
    -- br 17 lv=0:r,1:n,2:l,4:l st=
    · refine aw_lload_n (pc := 27) X d_Ep_divide_27 (by rfl) ?_
      refine aw_lload (pc := 28) X d_Ep_divide_28 (by rfl) ?_
      refine aw_lrem (pc := 30) X d_Ep_divide_30 hb ?_
      refine aw_lret Y X rfl d_Ep_divide_31 (by omega) (by omega) (hP _ _ _ ?_)
      -- ret 31 lv=0:r,1:n,2:l,4:l st=l
      exact ⟨rfl, Or.inr ⟨hb, rfl, by rw [if_neg h17]⟩⟩
    · refine aw_lload_n (pc := 20) X d_Ep_divide_20 (by rfl) ?_
      refine aw_lload (pc := 21) X d_Ep_divide_21 (by rfl) ?_
      refine aw_ldiv (pc := 23) X d_Ep_divide_23 hb ?_
      refine aw_goto (pc := 24) X (tgt := 31) d_Ep_divide_24 (by rfl) ?_
      refine aw_lret Y X rfl d_Ep_divide_31 (by omega) (by omega) (hP _ _ _ ?_)
      -- ret 31 lv=0:r,1:n,2:l,4:l st=l
      exact ⟨rfl, Or.inr ⟨hb, rfl, by rw [if_pos h17]⟩⟩
  · have hb : b = 0 := (lg_eq0 _ _).mp h4
    refine aw_aload_nR (pc := 7) X d_Ep_divide_7 (by rfl) ?_
    refine aw_iconstN (pc := 8) X 1 d_Ep_divide_8 (by decide) ?_
    refine aw_putO (pc := 9) X _ 3 (by omega) (by (repeat (first | rw [aw_up_eq] | rw [aw_up_ne _ _ (by first | assumption | omega)])) <;> first | assumption | rfl) (by rfl) in_Ep (by decide) ty_Ep ok_Ep nm_Ep k_344 (by rfl) (by decide +kernel) (by decide +kernel) (by simp) (fs' := [_, _, _, _]) (by rfl) d_Ep_divide_9 ?_
    refine aw_lconst (pc := 12) X (v := 0) d_Ep_divide_12 (by decide) ?_
    refine aw_lret Y X rfl d_Ep_divide_13 (by omega) (by omega) (hP _ _ _ ?_)
    -- ret 13 lv=0:r,1:n,2:l,4:l st=l
    exact ⟨rfl, Or.inl ⟨hb, wE_up G w x (x.1, x.2.1, true), rfl⟩⟩
theorem lko_nil (d x : Int) : Op.lookupswitch.offset [] d x = d := rfl
theorem c_Ep_strengthOf {c : Nat} (hc : c < 65536) : AC G y_Ep_strengthOf b_Ep_strengthOf 1 (some .int) d false [.int (nI c)] nx w 0 0 (fun r w' nx' => nx' = nx ∧ w' = w ∧ r = some (.int (nI (strS c)))) := by
  have hT : (nI c).toInt = (c : Int) := nI_toInt (by omega)
  refine AC.ofW (by decide) (Nat.le_of_ble_eq_true rfl) ?_
  intro E P hP Y X
  have X : aw_X G "RescanDesk$Expression" b_Ep_strengthOf 1 (some .int) "strengthOf" _ _ _ _ _ E := X
  refine AW.eql (lv' := [(0, _)]) (by rfl) ?_
  refine aw_iload_n (pc := 0) X d_Ep_strengthOf_0 (by rfl) ?_
  -- lookupswitch 1 lv=0:n st=n
  by_cases q4 : c = 42 ∨ c = 47 ∨ c = 37
  · refine aw_lookup (pc := 1) X (off := 97) (tgt := 98) d_Ep_strengthOf_1 (by decide) (by rw [hT]; rcases q4 with rfl | rfl | rfl <;> decide) (by rfl) ?_
    refine aw_iconstN (pc := 98) X 4 d_Ep_strengthOf_98 (by decide) ?_
    refine aw_iret Y X rfl d_Ep_strengthOf_99 (by omega) (by omega) (hP _ _ _ ?_)
    -- ret 99 lv=0:n st=n
    exact ⟨rfl, rfl, by rw [strS, if_pos q4]⟩
  · by_cases q3 : c = 43 ∨ c = 45
    · refine aw_lookup (pc := 1) X (off := 95) (tgt := 96) d_Ep_strengthOf_1 (by decide) (by rw [hT]; rcases q3 with rfl | rfl <;> decide) (by rfl) ?_
      refine aw_iconstN (pc := 96) X 3 d_Ep_strengthOf_96 (by decide) ?_
      refine aw_iret Y X rfl d_Ep_strengthOf_97 (by omega) (by omega) (hP _ _ _ ?_)
      -- ret 97 lv=0:n st=n
      exact ⟨rfl, rfl, by rw [strS, if_neg q4, if_pos q3]⟩
    · by_cases q2 : c = 60 ∨ c = 62 ∨ c = 61
      · refine aw_lookup (pc := 1) X (off := 93) (tgt := 94) d_Ep_strengthOf_1 (by decide) (by rw [hT]; rcases q2 with rfl | rfl | rfl <;> decide) (by rfl) ?_
        refine aw_iconstN (pc := 94) X 2 d_Ep_strengthOf_94 (by decide) ?_
        refine aw_iret Y X rfl d_Ep_strengthOf_95 (by omega) (by omega) (hP _ _ _ ?_)
        -- ret 95 lv=0:n st=n
        exact ⟨rfl, rfl, by rw [strS, if_neg q4, if_neg q3, if_pos q2]⟩
      · by_cases q1 : c = 38 ∨ c = 124
        · refine aw_lookup (pc := 1) X (off := 91) (tgt := 92) d_Ep_strengthOf_1 (by decide) (by rw [hT]; rcases q1 with rfl | rfl <;> decide) (by rfl) ?_
          refine aw_iconstN (pc := 92) X 1 d_Ep_strengthOf_92 (by decide) ?_
          refine aw_iret Y X rfl d_Ep_strengthOf_93 (by omega) (by omega) (hP _ _ _ ?_)
          -- ret 93 lv=0:n st=n
          exact ⟨rfl, rfl, by rw [strS, if_neg q4, if_neg q3, if_neg q2, if_pos q1]⟩
        · refine aw_lookup (pc := 1) X (off := 99) (tgt := 100) d_Ep_strengthOf_1 (by decide) (by
            rw [hT]
            simp only [Op.lookupswitch.offset_cons, lko_nil]
            repeat rw [if_neg (by omega)]) (by rfl) ?_
          refine aw_iconstN (pc := 100) X 0 d_Ep_strengthOf_100 (by decide) ?_
          refine aw_iret Y X rfl d_Ep_strengthOf_101 (by omega) (by omega) (hP _ _ _ ?_)
          -- ret 101 lv=0:n st=n
          exact ⟨rfl, rfl, by rw [strS, if_neg q4, if_neg q3, if_neg q2, if_neg q1]⟩
theorem c_Ep_number {x : ES} {S : List Nat} (hnx : 416 ≤ nx) (hd : 1 ≤ d) (hx : x.1 ≤ S.length) (hS : hTx G w 414 400 S) : AC G y_Ep_number b_Ep_number 4 (some .long) d false [rf G 413] nx (wE G w x) 0 0 (fun r w' nx' => nx' = nx ∧ w' = wE G w (x.1 + (numV 0 (S.drop x.1)).2, x.2.1 || decide ((numV 0 (S.drop x.1)).2 = 0), x.2.2) ∧ r = some (.long (numV 0 (S.drop x.1)).1)) := by
  obtain ⟨gg, s2, s3, s4⟩ := hS.arr
  have s1 := hS.obj
  have hl := hS.le
  have hdr : ∀ i, i < S.length → S.drop i = gg i :: S.drop (i + 1) := fun i hi => by
    rw [List.drop_eq_getElem_cons hi]
    congr 1
    have : S[i]? = some (gg i) := by
      have q := congrArg (fun l => l[i]?) s3
      simp only [sl_get hi, Nat.zero_add] at q
      exact q
    rw [List.getElem?_eq_getElem hi] at this
    exact Option.some.inj this
  refine AC.ofW (by decide) (Nat.le_of_ble_eq_true rfl) ?_
  intro E P hP Y X
  have X : aw_X G "RescanDesk$Expression" b_Ep_number 4 (some .long) "number" _ _ _ _ _ E := X
  refine AW.eql (lv' := [(0, _)]) (by rfl) ?_
  have hfin : ∀ (i : Nat) (v : Int64), i ≤ S.length → (numV v (S.drop i)).2 = 0 → i + (numV v (S.drop i)).2 = x.1 + (numV 0 (S.drop x.1)).2 → x.1 ≤ i → v = (numV 0 (S.drop x.1)).1 → AW G E 4 nx 0 0 (wE G w (i, x.2)) 75 [(2, .long v), (1, .int (nI x.1)), (0, rf G 413)] [] := fun i v hi0 h0 hr1 hxi hv => by
    have e1 : wE G w (i, x.2) 413 = aObj 9 [rf G 414, .int (nI i), .int (nI (bN x.2.1)), .int (nI (bN x.2.2))] := wE_at G w (i, x.2)
    refine aw_aload_nR (pc := 75) X d_Ep_number_75 (by rfl) ?_
    refine aw_getO (pc := 76) X _ 1 (by omega) (by (repeat (first | rw [aw_up_eq] | rw [aw_up_ne _ _ (by first | assumption | omega)])) <;> first | assumption | rfl) (by rfl) in_Ep (by decide) k_342 (by rfl) d_Ep_number_76 ?_
    refine aw_iload_n (pc := 79) X d_Ep_number_79 (by rfl) ?_
    refine aw_icmp_neN (pc := 80) X (tgt := 88) d_Ep_number_80 (by rfl) (by omega) (by omega) (fun h80 => ?_) (fun h80 => ?_)
    -- br 80 lv=2:l,1:n,0:r st=
    · refine aw_lload_n (pc := 88) X d_Ep_number_88 (by rfl) ?_
      refine aw_lret Y X rfl d_Ep_number_89 (by omega) (by omega) (hP _ _ _ ?_)
      -- ret 89 lv=2:l,1:n,0:r st=l
      refine ⟨rfl, ?_, by rw [hv]⟩
      rw [← hr1, h0, decide_eq_false (by omega), Bool.or_false]
      rfl
    · refine aw_aload_nR (pc := 83) X d_Ep_number_83 (by rfl) ?_
      refine aw_iconstN (pc := 84) X 1 d_Ep_number_84 (by decide) ?_
      refine aw_putO (pc := 85) X _ 2 (by omega) (by (repeat (first | rw [aw_up_eq] | rw [aw_up_ne _ _ (by first | assumption | omega)])) <;> first | assumption | rfl) (by rfl) in_Ep (by decide) ty_Ep ok_Ep nm_Ep k_343 (by rfl) (by decide +kernel) (by decide +kernel) (by simp) (fs' := [_, _, _, _]) (by rfl) d_Ep_number_85 ?_
      refine aw_lload_n (pc := 88) X d_Ep_number_88 (by rfl) ?_
      refine aw_lret Y X rfl d_Ep_number_89 (by omega) (by omega) (hP _ _ _ ?_)
      -- ret 89 lv=2:l,1:n,0:r st=l
      refine ⟨rfl, ?_, by rw [hv]⟩
      rw [show (x.2.1 || decide ((numV 0 (S.drop x.1)).2 = 0)) = true by rw [decide_eq_true (by omega), Bool.or_true], ← hr1, h0]
      exact wE_up G w (i, x.2) (i, true, x.2.2)
  have L : ∀ (k i : Nat) (v : Int64), i + k = S.length → i + (numV v (S.drop i)).2 = x.1 + (numV 0 (S.drop x.1)).2 → (numV v (S.drop i)).1 = (numV 0 (S.drop x.1)).1 → x.1 ≤ i → AW G E 4 nx 0 0 (wE G w (i, x.2)) 7 [(2, .long v), (1, .int (nI x.1)), (0, rf G 413)] [] := by
    intro k
    induction k with
    | zero =>
      intro i v hi hr1 hr2 hxi
      have e1 : wE G w (i, x.2) 413 = aObj 9 [rf G 414, .int (nI i), .int (nI (bN x.2.1)), .int (nI (bN x.2.2))] := wE_at G w (i, x.2)
      have e2 : wE G w (i, x.2) 414 = oTx G 415 S.length := (wE_ne G w _ (by omega)).trans s1
      have hd0 : S.drop i = [] := List.drop_of_length_le (by omega)
      refine aw_aload_nR (pc := 7) X d_Ep_number_7 (by rfl) ?_
      refine aw_getO (pc := 8) X _ 1 (by omega) (by (repeat (first | rw [aw_up_eq] | rw [aw_up_ne _ _ (by first | assumption | omega)])) <;> first | assumption | rfl) (by rfl) in_Ep (by decide) k_342 (by rfl) d_Ep_number_8 ?_
      refine aw_aload_nR (pc := 11) X d_Ep_number_11 (by rfl) ?_
      refine aw_getO (pc := 12) X _ 0 (by omega) (by (repeat (first | rw [aw_up_eq] | rw [aw_up_ne _ _ (by first | assumption | omega)])) <;> first | assumption | rfl) (by rfl) in_Ep (by decide) k_341 (by rfl) d_Ep_number_12 ?_
      refine aw_getNO (pc := 15) X _ 1 (by omega) (by (repeat (first | rw [aw_up_eq] | rw [aw_up_ne _ _ (by first | assumption | omega)])) <;> first | assumption | rfl) (by rfl) in_Tx (by decide) k_112 (by rfl) d_Ep_number_15 ?_
      refine aw_icmp_geN (pc := 18) X (tgt := 75) d_Ep_number_18 (by rfl) (by omega) (by omega) (fun h18 => ?_) (fun h18 => ?_)
      -- br 18 lv=2:l,1:n,0:r st=
      · exact hfin i v (by omega) (by rw [hd0]; rfl) hr1 hxi (by rw [← hr2, hd0]; rfl)
      · omega
    | succ k ih =>
      intro i v hi hr1 hr2 hxi
      have e1 : wE G w (i, x.2) 413 = aObj 9 [rf G 414, .int (nI i), .int (nI (bN x.2.1)), .int (nI (bN x.2.2))] := wE_at G w (i, x.2)
      have e2 : wE G w (i, x.2) 414 = oTx G 415 S.length := (wE_ne G w _ (by omega)).trans s1
      have e3 : wE G w (i, x.2) 415 = aCh G 400 gg := (wE_ne G w _ (by omega)).trans s2
      have hgi := s4 i
      have hd0 := hdr i (by omega)
      refine aw_aload_nR (pc := 7) X d_Ep_number_7 (by rfl) ?_
      refine aw_getO (pc := 8) X _ 1 (by omega) (by (repeat (first | rw [aw_up_eq] | rw [aw_up_ne _ _ (by first | assumption | omega)])) <;> first | assumption | rfl) (by rfl) in_Ep (by decide) k_342 (by rfl) d_Ep_number_8 ?_
      refine aw_aload_nR (pc := 11) X d_Ep_number_11 (by rfl) ?_
      refine aw_getO (pc := 12) X _ 0 (by omega) (by (repeat (first | rw [aw_up_eq] | rw [aw_up_ne _ _ (by first | assumption | omega)])) <;> first | assumption | rfl) (by rfl) in_Ep (by decide) k_341 (by rfl) d_Ep_number_12 ?_
      refine aw_getNO (pc := 15) X _ 1 (by omega) (by (repeat (first | rw [aw_up_eq] | rw [aw_up_ne _ _ (by first | assumption | omega)])) <;> first | assumption | rfl) (by rfl) in_Tx (by decide) k_112 (by rfl) d_Ep_number_15 ?_
      refine aw_icmp_geN (pc := 18) X (tgt := 75) d_Ep_number_18 (by rfl) (by omega) (by omega) (fun h18 => ?_) (fun h18 => ?_)
      -- br 18 lv=2:l,1:n,0:r st=
      · omega
      · refine aw_aload_nR (pc := 21) X d_Ep_number_21 (by rfl) ?_
        refine aw_getO (pc := 22) X _ 0 (by omega) (by (repeat (first | rw [aw_up_eq] | rw [aw_up_ne _ _ (by first | assumption | omega)])) <;> first | assumption | rfl) (by rfl) in_Ep (by decide) k_341 (by rfl) d_Ep_number_22 ?_
        refine aw_getNO (pc := 25) X _ 0 (by omega) (by (repeat (first | rw [aw_up_eq] | rw [aw_up_ne _ _ (by first | assumption | omega)])) <;> first | assumption | rfl) (by rfl) in_Tx (by decide) k_106 (by rfl) d_Ep_number_25 ?_
        refine aw_aload_nR (pc := 28) X d_Ep_number_28 (by rfl) ?_
        refine aw_getO (pc := 29) X _ 1 (by omega) (by (repeat (first | rw [aw_up_eq] | rw [aw_up_ne _ _ (by first | assumption | omega)])) <;> first | assumption | rfl) (by rfl) in_Ep (by decide) k_342 (by rfl) d_Ep_number_29 ?_
        refine aw_caldN (pc := 32) X _ 0 (by omega) (by (repeat (first | rw [aw_up_eq] | rw [aw_up_ne _ _ (by first | assumption | omega)])) <;> first | assumption | rfl) (by rfl) (by omega) (by omega) d_Ep_number_32 ?_
        -- invokestatic 33 lv=2:l,1:n,0:r st=n
        refine aw_callSN (pc := 33) X (c_Rd_isDigit (d := 0) hgi) q_Rd_isDigit k_754 k_565 d_Ep_number_33 (by omega) (Nat.le_of_ble_eq_true rfl) ⟨by omega, by omega⟩ (fun h => by cases h) (fun r w2 nx2 hp => ?_)
        obtain ⟨rfl, rfl, rfl⟩ := hp
        have hb := bN_lt (isDig (gg i))
        refine aw_if_eqN (pc := 36) X (tgt := 75) d_Ep_number_36 (by rfl) (by omega) (fun h36 => ?_) (fun h36 => ?_)
        -- br 36 lv=2:l,1:n,0:r st=
        · have hz : numV v (S.drop i) = (v, 0) := by rw [hd0, numV, if_neg (by rw [bN_eq.mp h36]; decide)]
          exact hfin i v (by omega) (by rw [hz]) hr1 hxi (by rw [← hr2, hz])
        · have hdg := bN_ne.mp h36
          have hdg2 := of_decide_eq_true hdg
          rw [hd0, numV, if_pos hdg] at hr1 hr2
          refine aw_lload_n (pc := 39) X d_Ep_number_39 (by rfl) ?_
          refine aw_ldc2 (pc := 40) X k_755 d_Ep_number_40 ?_
          refine aw_lmul (pc := 43) X d_Ep_number_43 ?_
          refine aw_aload_nR (pc := 44) X d_Ep_number_44 (by rfl) ?_
          refine aw_getO (pc := 45) X _ 0 (by omega) (by (repeat (first | rw [aw_up_eq] | rw [aw_up_ne _ _ (by first | assumption | omega)])) <;> first | assumption | rfl) (by rfl) in_Ep (by decide) k_341 (by rfl) d_Ep_number_45 ?_
          refine aw_getNO (pc := 48) X _ 0 (by omega) (by (repeat (first | rw [aw_up_eq] | rw [aw_up_ne _ _ (by first | assumption | omega)])) <;> first | assumption | rfl) (by rfl) in_Tx (by decide) k_106 (by rfl) d_Ep_number_48 ?_
          refine aw_aload_nR (pc := 51) X d_Ep_number_51 (by rfl) ?_
          refine aw_getO (pc := 52) X _ 1 (by omega) (by (repeat (first | rw [aw_up_eq] | rw [aw_up_ne _ _ (by first | assumption | omega)])) <;> first | assumption | rfl) (by rfl) in_Ep (by decide) k_342 (by rfl) d_Ep_number_52 ?_
          refine aw_caldN (pc := 55) X _ 0 (by omega) (by (repeat (first | rw [aw_up_eq] | rw [aw_up_ne _ _ (by first | assumption | omega)])) <;> first | assumption | rfl) (by rfl) (by omega) (by omega) d_Ep_number_55 ?_
          refine aw_bipushN (pc := 56) X 48 d_Ep_number_56 (by decide) ?_
          refine aw_isubN (pc := 58) X d_Ep_number_58 (by omega) ?_
          refine aw_i2lN (pc := 59) X d_Ep_number_59 (by omega) ?_
          refine aw_ladd (pc := 60) X d_Ep_number_60 ?_
          refine aw_lstore_n (pc := 61) X (lv' := [(2, _), (1, _), (0, _)]) d_Ep_number_61 (by decide) (by rfl) ?_
          refine aw_aload_nR (pc := 62) X d_Ep_number_62 (by rfl) ?_
          refine aw_dup (pc := 63) X d_Ep_number_63 (by rfl) ?_
          refine aw_getO (pc := 64) X _ 1 (by omega) (by (repeat (first | rw [aw_up_eq] | rw [aw_up_ne _ _ (by first | assumption | omega)])) <;> first | assumption | rfl) (by rfl) in_Ep (by decide) k_342 (by rfl) d_Ep_number_64 ?_
          refine aw_iconstN (pc := 67) X 1 d_Ep_number_67 (by decide) ?_
          refine aw_iaddN (pc := 68) X d_Ep_number_68 ?_
          refine aw_putO (pc := 69) X _ 1 (by omega) (by (repeat (first | rw [aw_up_eq] | rw [aw_up_ne _ _ (by first | assumption | omega)])) <;> first | assumption | rfl) (by rfl) in_Ep (by decide) ty_Ep ok_Ep nm_Ep k_342 (by rfl) (by rfl) (by rfl) (by simp) (fs' := [_, _, _, _]) (by rfl) d_Ep_number_69 ?_
          -- stop 72 lv=2:l,1:n,0:r st=
          refine AW.eqw (wE_up G w (i, x.2) (i + 1, x.2)) ?_
          refine aw_goto (pc := 72) X (tgt := 7) d_Ep_number_72 (by rfl) ?_
          -- stop 7 lv=2:l,1:n,0:r st=
          exact ih (i + 1) _ (by omega) (by simp only at hr1; omega) hr2 (by omega)
  have e1 := wE_at G w x
  refine aw_aload_nR (pc := 0) X d_Ep_number_0 (by rfl) ?_
  refine aw_getO (pc := 1) X _ 1 (by omega) (by (repeat (first | rw [aw_up_eq] | rw [aw_up_ne _ _ (by first | assumption | omega)])) <;> first | assumption | rfl) (by rfl) in_Ep (by decide) k_342 (by rfl) d_Ep_number_1 ?_
  refine aw_istore_n (pc := 4) X (lv' := [(1, _), (0, _)]) d_Ep_number_4 (by decide) (by rfl) ?_
  refine aw_lconst (pc := 5) X (v := 0) d_Ep_number_5 (by decide) ?_
  refine aw_lstore_n (pc := 6) X (lv' := [(2, _), (1, _), (0, _)]) d_Ep_number_6 (by decide) (by rfl) ?_
  -- stop 7 lv=2:l,1:n,0:r st=
  exact L (S.length - x.1) x.1 0 (by omega) rfl rfl (Nat.le_refl _)
end
end
section
/-! Expression.combine, level, operand -/
section
variable {G : aw_G} {nx d : Nat} {w : Nat → va_E}
theorem c_Ep_combine {x : ES} {o : Nat} {a b : Int64} (hnx : 414 ≤ nx) (hd : 1 ≤ d) (ho : o < 65536) : AC G y_Ep_combine b_Ep_combine 6 (some .long) d false [rf G 413, .int (nI o), .long a, .long b] nx (wE G w x) 0 0 (fun r w' nx' => nx' = nx ∧ w' = wE G w (x.1, x.2.1, x.2.2 || (cmbS o a b).2) ∧ r = some (.long (cmbS o a b).1)) := by
  have hT : (nI o).toInt = (o : Int) := nI_toInt (by omega)
  have e1 := wE_at G w x
  have hxx : ∀ y : Bool, y = false → wE G w x = wE G w (x.1, x.2.1, x.2.2 || y) := fun y hy => by rw [hy, Bool.or_false]
  refine AC.ofW (by decide) (Nat.le_of_ble_eq_true rfl) ?_
  intro E P hP Y X
  have X : aw_X G "RescanDesk$Expression" b_Ep_combine 6 (some .long) "combine" _ _ _ _ _ E := X
  refine AW.eql (lv' := [(0, _), (1, _), (2, _), (4, _)]) (by rfl) ?_
  refine aw_iload_n (pc := 0) X d_Ep_combine_0 (by rfl) ?_
  -- lookupswitch 1 lv=0:r,1:n,2:l,4:l st=n
  by_cases q38 : o = 38
  · have hcm : cmbS o a b = (if a ≠ 0 ∧ b ≠ 0 then 1 else 0, false) := by rw [cmbS, if_pos q38]
    subst q38
    refine aw_lookup (pc := 1) X (off := 75) (tgt := 76) d_Ep_combine_1 (by decide) (by rw [hT]; decide) (by rfl) ?_
    refine aw_lload_n (pc := 76) X d_Ep_combine_76 (by rfl) ?_
    refine aw_lconst (pc := 77) X (v := 0) d_Ep_combine_77 (by decide) ?_
    refine aw_lcmp (pc := 78) X d_Ep_combine_78 ?_
    refine aw_if_eq (pc := 79) X (tgt := 93) d_Ep_combine_79 (by rfl) (fun h79 => ?_) (fun h79 => ?_)
    -- br 79 lv=0:r,1:n,2:l,4:l st=
    · have z : a = 0 := (lg_eq0 _ _).mp h79
      refine aw_iconstN (pc := 93) X 0 d_Ep_combine_93 (by decide) ?_
      -- invokestatic 94 lv=0:r,1:n,2:l,4:l st=n
      refine aw_callS (pc := 94) X (c_Ep_truth (d := 0) (b := false)) q_Ep_truth k_763 k_764 d_Ep_combine_94 (by omega) (Nat.le_of_ble_eq_true rfl) ⟨by omega, by omega⟩ (fun h => by cases h) (fun r w2 nx2 hp => ?_)
      obtain ⟨rfl, rfl, rfl⟩ := hp
      refine aw_lret Y X rfl d_Ep_combine_97 (by omega) (by omega) (hP _ _ _ ?_)
      -- ret 97 lv=0:r,1:n,2:l,4:l st=l
      exact ⟨rfl, hxx _ (by rw [hcm]), by rw [hcm]; simp [*]⟩
    · have z : ¬ a = 0 := fun e => h79 ((lg_eq0 _ _).mpr e)
      refine aw_lload (pc := 82) X d_Ep_combine_82 (by rfl) ?_
      refine aw_lconst (pc := 84) X (v := 0) d_Ep_combine_84 (by decide) ?_
      refine aw_lcmp (pc := 85) X d_Ep_combine_85 ?_
      refine aw_if_eq (pc := 86) X (tgt := 93) d_Ep_combine_86 (by rfl) (fun h86 => ?_) (fun h86 => ?_)
      -- br 86 lv=0:r,1:n,2:l,4:l st=
      · have z2 : b = 0 := (lg_eq0 _ _).mp h86
        refine aw_iconstN (pc := 93) X 0 d_Ep_combine_93 (by decide) ?_
        -- invokestatic 94 lv=0:r,1:n,2:l,4:l st=n
        refine aw_callS (pc := 94) X (c_Ep_truth (d := 0) (b := false)) q_Ep_truth k_763 k_764 d_Ep_combine_94 (by omega) (Nat.le_of_ble_eq_true rfl) ⟨by omega, by omega⟩ (fun h => by cases h) (fun r w2 nx2 hp => ?_)
        obtain ⟨rfl, rfl, rfl⟩ := hp
        refine aw_lret Y X rfl d_Ep_combine_97 (by omega) (by omega) (hP _ _ _ ?_)
        -- ret 97 lv=0:r,1:n,2:l,4:l st=l
        exact ⟨rfl, hxx _ (by rw [hcm]), by rw [hcm]; simp [*]⟩
      · have z2 : ¬ b = 0 := fun e => h86 ((lg_eq0 _ _).mpr e)
        refine aw_iconstN (pc := 89) X 1 d_Ep_combine_89 (by decide) ?_
        refine aw_goto (pc := 90) X (tgt := 94) d_Ep_combine_90 (by rfl) ?_
        -- invokestatic 94 lv=0:r,1:n,2:l,4:l st=n
        refine aw_callS (pc := 94) X (c_Ep_truth (d := 0) (b := true)) q_Ep_truth k_763 k_764 d_Ep_combine_94 (by omega) (Nat.le_of_ble_eq_true rfl) ⟨by omega, by omega⟩ (fun h => by cases h) (fun r w2 nx2 hp => ?_)
        obtain ⟨rfl, rfl, rfl⟩ := hp
        refine aw_lret Y X rfl d_Ep_combine_97 (by omega) (by omega) (hP _ _ _ ?_)
        -- ret 97 lv=0:r,1:n,2:l,4:l st=l
        exact ⟨rfl, hxx _ (by rw [hcm]), by rw [hcm]; simp [*]⟩
  by_cases q124 : o = 124
  · have hcm : cmbS o a b = (if a ≠ 0 ∨ b ≠ 0 then 1 else 0, false) := by rw [cmbS, if_neg q38, if_pos q124]
    subst q124
    refine aw_lookup (pc := 1) X (off := 97) (tgt := 98) d_Ep_combine_1 (by decide) (by rw [hT]; decide) (by rfl) ?_
    refine aw_lload_n (pc := 98) X d_Ep_combine_98 (by rfl) ?_
    refine aw_lconst (pc := 99) X (v := 0) d_Ep_combine_99 (by decide) ?_
    refine aw_lcmp (pc := 100) X d_Ep_combine_100 ?_
    refine aw_if_ne (pc := 101) X (tgt := 111) d_Ep_combine_101 (by rfl) (fun h101 => ?_) (fun h101 => ?_)
    -- br 101 lv=0:r,1:n,2:l,4:l st=
    · have z : ¬ a = 0 := fun e => h101 ((lg_eq0 _ _).mpr e)
      refine aw_iconstN (pc := 111) X 1 d_Ep_combine_111 (by decide) ?_
      refine aw_goto (pc := 112) X (tgt := 116) d_Ep_combine_112 (by rfl) ?_
      -- invokestatic 116 lv=0:r,1:n,2:l,4:l st=n
      refine aw_callS (pc := 116) X (c_Ep_truth (d := 0) (b := true)) q_Ep_truth k_763 k_764 d_Ep_combine_116 (by omega) (Nat.le_of_ble_eq_true rfl) ⟨by omega, by omega⟩ (fun h => by cases h) (fun r w2 nx2 hp => ?_)
      obtain ⟨rfl, rfl, rfl⟩ := hp
      refine aw_lret Y X rfl d_Ep_combine_119 (by omega) (by omega) (hP _ _ _ ?_)
      -- ret 119 lv=0:r,1:n,2:l,4:l st=l
      exact ⟨rfl, hxx _ (by rw [hcm]), by rw [hcm]; simp [*]⟩
    · have z : a = 0 := (lg_eq0 _ _).mp h101
      refine aw_lload (pc := 104) X d_Ep_combine_104 (by rfl) ?_
      refine aw_lconst (pc := 106) X (v := 0) d_Ep_combine_106 (by decide) ?_
      refine aw_lcmp (pc := 107) X d_Ep_combine_107 ?_
      refine aw_if_eq (pc := 108) X (tgt := 115) d_Ep_combine_108 (by rfl) (fun h108 => ?_) (fun h108 => ?_)
      -- br 108 lv=0:r,1:n,2:l,4:l st=
      · have z2 : b = 0 := (lg_eq0 _ _).mp h108
        refine aw_iconstN (pc := 115) X 0 d_Ep_combine_115 (by decide) ?_
        -- invokestatic 116 lv=0:r,1:n,2:l,4:l st=n
        refine aw_callS (pc := 116) X (c_Ep_truth (d := 0) (b := false)) q_Ep_truth k_763 k_764 d_Ep_combine_116 (by omega) (Nat.le_of_ble_eq_true rfl) ⟨by omega, by omega⟩ (fun h => by cases h) (fun r w2 nx2 hp => ?_)
        obtain ⟨rfl, rfl, rfl⟩ := hp
        refine aw_lret Y X rfl d_Ep_combine_119 (by omega) (by omega) (hP _ _ _ ?_)
        -- ret 119 lv=0:r,1:n,2:l,4:l st=l
        exact ⟨rfl, hxx _ (by rw [hcm]), by rw [hcm]; simp [*]⟩
      · have z2 : ¬ b = 0 := fun e => h108 ((lg_eq0 _ _).mpr e)
        refine aw_iconstN (pc := 111) X 1 d_Ep_combine_111 (by decide) ?_
        refine aw_goto (pc := 112) X (tgt := 116) d_Ep_combine_112 (by rfl) ?_
        -- invokestatic 116 lv=0:r,1:n,2:l,4:l st=n
        refine aw_callS (pc := 116) X (c_Ep_truth (d := 0) (b := true)) q_Ep_truth k_763 k_764 d_Ep_combine_116 (by omega) (Nat.le_of_ble_eq_true rfl) ⟨by omega, by omega⟩ (fun h => by cases h) (fun r w2 nx2 hp => ?_)
        obtain ⟨rfl, rfl, rfl⟩ := hp
        refine aw_lret Y X rfl d_Ep_combine_119 (by omega) (by omega) (hP _ _ _ ?_)
        -- ret 119 lv=0:r,1:n,2:l,4:l st=l
        exact ⟨rfl, hxx _ (by rw [hcm]), by rw [hcm]; simp [*]⟩
  by_cases q60 : o = 60
  · have hcm : cmbS o a b = (if a < b then 1 else 0, false) := by rw [cmbS, if_neg q38, if_neg q124, if_pos q60]
    subst q60
    refine aw_lookup (pc := 1) X (off := 119) (tgt := 120) d_Ep_combine_1 (by decide) (by rw [hT]; decide) (by rfl) ?_
    refine aw_lload_n (pc := 120) X d_Ep_combine_120 (by rfl) ?_
    refine aw_lload (pc := 121) X d_Ep_combine_121 (by rfl) ?_
    refine aw_lcmp (pc := 123) X d_Ep_combine_123 ?_
    refine aw_if_ge (pc := 124) X (tgt := 131) d_Ep_combine_124 (by rfl) (fun h124 => ?_) (fun h124 => ?_)
    -- br 124 lv=0:r,1:n,2:l,4:l st=
    · have z : ¬ a < b := fun e => absurd ((lg_lt0 _ _).mpr e) (Int32.not_lt.mpr h124)
      refine aw_iconstN (pc := 131) X 0 d_Ep_combine_131 (by decide) ?_
      -- invokestatic 132 lv=0:r,1:n,2:l,4:l st=n
      refine aw_callS (pc := 132) X (c_Ep_truth (d := 0) (b := false)) q_Ep_truth k_763 k_764 d_Ep_combine_132 (by omega) (Nat.le_of_ble_eq_true rfl) ⟨by omega, by omega⟩ (fun h => by cases h) (fun r w2 nx2 hp => ?_)
      obtain ⟨rfl, rfl, rfl⟩ := hp
      refine aw_lret Y X rfl d_Ep_combine_135 (by omega) (by omega) (hP _ _ _ ?_)
      -- ret 135 lv=0:r,1:n,2:l,4:l st=l
      exact ⟨rfl, hxx _ (by rw [hcm]), by rw [hcm]; simp [*]⟩
    · have z : a < b := (lg_lt0 _ _).mp (Int32.not_le.mp h124)
      refine aw_iconstN (pc := 127) X 1 d_Ep_combine_127 (by decide) ?_
      refine aw_goto (pc := 128) X (tgt := 132) d_Ep_combine_128 (by rfl) ?_
      -- invokestatic 132 lv=0:r,1:n,2:l,4:l st=n
      refine aw_callS (pc := 132) X (c_Ep_truth (d := 0) (b := true)) q_Ep_truth k_763 k_764 d_Ep_combine_132 (by omega) (Nat.le_of_ble_eq_true rfl) ⟨by omega, by omega⟩ (fun h => by cases h) (fun r w2 nx2 hp => ?_)
      obtain ⟨rfl, rfl, rfl⟩ := hp
      refine aw_lret Y X rfl d_Ep_combine_135 (by omega) (by omega) (hP _ _ _ ?_)
      -- ret 135 lv=0:r,1:n,2:l,4:l st=l
      exact ⟨rfl, hxx _ (by rw [hcm]), by rw [hcm]; simp [*]⟩
  by_cases q62 : o = 62
  · have hcm : cmbS o a b = (if b < a then 1 else 0, false) := by rw [cmbS, if_neg q38, if_neg q124, if_neg q60, if_pos q62]
    subst q62
    refine aw_lookup (pc := 1) X (off := 135) (tgt := 136) d_Ep_combine_1 (by decide) (by rw [hT]; decide) (by rfl) ?_
    refine aw_lload_n (pc := 136) X d_Ep_combine_136 (by rfl) ?_
    refine aw_lload (pc := 137) X d_Ep_combine_137 (by rfl) ?_
    refine aw_lcmp (pc := 139) X d_Ep_combine_139 ?_
    refine aw_if_le (pc := 140) X (tgt := 147) d_Ep_combine_140 (by rfl) (fun h140 => ?_) (fun h140 => ?_)
    -- br 140 lv=0:r,1:n,2:l,4:l st=
    · have z : ¬ b < a := fun e => absurd ((lg_gt0 _ _).mpr e) (Int32.not_lt.mpr h140)
      refine aw_iconstN (pc := 147) X 0 d_Ep_combine_147 (by decide) ?_
      -- invokestatic 148 lv=0:r,1:n,2:l,4:l st=n
      refine aw_callS (pc := 148) X (c_Ep_truth (d := 0) (b := false)) q_Ep_truth k_763 k_764 d_Ep_combine_148 (by omega) (Nat.le_of_ble_eq_true rfl) ⟨by omega, by omega⟩ (fun h => by cases h) (fun r w2 nx2 hp => ?_)
      obtain ⟨rfl, rfl, rfl⟩ := hp
      refine aw_lret Y X rfl d_Ep_combine_151 (by omega) (by omega) (hP _ _ _ ?_)
      -- ret 151 lv=0:r,1:n,2:l,4:l st=l
      exact ⟨rfl, hxx _ (by rw [hcm]), by rw [hcm]; simp [*]⟩
    · have z : b < a := (lg_gt0 _ _).mp (Int32.not_le.mp h140)
      refine aw_iconstN (pc := 143) X 1 d_Ep_combine_143 (by decide) ?_
      refine aw_goto (pc := 144) X (tgt := 148) d_Ep_combine_144 (by rfl) ?_
      -- invokestatic 148 lv=0:r,1:n,2:l,4:l st=n
      refine aw_callS (pc := 148) X (c_Ep_truth (d := 0) (b := true)) q_Ep_truth k_763 k_764 d_Ep_combine_148 (by omega) (Nat.le_of_ble_eq_true rfl) ⟨by omega, by omega⟩ (fun h => by cases h) (fun r w2 nx2 hp => ?_)
      obtain ⟨rfl, rfl, rfl⟩ := hp
      refine aw_lret Y X rfl d_Ep_combine_151 (by omega) (by omega) (hP _ _ _ ?_)
      -- ret 151 lv=0:r,1:n,2:l,4:l st=l
      exact ⟨rfl, hxx _ (by rw [hcm]), by rw [hcm]; simp [*]⟩
  by_cases q61 : o = 61
  · have hcm : cmbS o a b = (if a = b then 1 else 0, false) := by rw [cmbS, if_neg q38, if_neg q124, if_neg q60, if_neg q62, if_pos q61]
    subst q61
    refine aw_lookup (pc := 1) X (off := 151) (tgt := 152) d_Ep_combine_1 (by decide) (by rw [hT]; decide) (by rfl) ?_
    refine aw_lload_n (pc := 152) X d_Ep_combine_152 (by rfl) ?_
    refine aw_lload (pc := 153) X d_Ep_combine_153 (by rfl) ?_
    refine aw_lcmp (pc := 155) X d_Ep_combine_155 ?_
    refine aw_if_ne (pc := 156) X (tgt := 163) d_Ep_combine_156 (by rfl) (fun h156 => ?_) (fun h156 => ?_)
    -- br 156 lv=0:r,1:n,2:l,4:l st=
    · have z : ¬ a = b := fun e => h156 ((lg_eq0 _ _).mpr e)
      refine aw_iconstN (pc := 163) X 0 d_Ep_combine_163 (by decide) ?_
      -- invokestatic 164 lv=0:r,1:n,2:l,4:l st=n
      refine aw_callS (pc := 164) X (c_Ep_truth (d := 0) (b := false)) q_Ep_truth k_763 k_764 d_Ep_combine_164 (by omega) (Nat.le_of_ble_eq_true rfl) ⟨by omega, by omega⟩ (fun h => by cases h) (fun r w2 nx2 hp => ?_)
      obtain ⟨rfl, rfl, rfl⟩ := hp
      refine aw_lret Y X rfl d_Ep_combine_167 (by omega) (by omega) (hP _ _ _ ?_)
      -- ret 167 lv=0:r,1:n,2:l,4:l st=l
      exact ⟨rfl, hxx _ (by rw [hcm]), by rw [hcm]; simp [*]⟩
    · have z : a = b := (lg_eq0 _ _).mp h156
      refine aw_iconstN (pc := 159) X 1 d_Ep_combine_159 (by decide) ?_
      refine aw_goto (pc := 160) X (tgt := 164) d_Ep_combine_160 (by rfl) ?_
      -- invokestatic 164 lv=0:r,1:n,2:l,4:l st=n
      refine aw_callS (pc := 164) X (c_Ep_truth (d := 0) (b := true)) q_Ep_truth k_763 k_764 d_Ep_combine_164 (by omega) (Nat.le_of_ble_eq_true rfl) ⟨by omega, by omega⟩ (fun h => by cases h) (fun r w2 nx2 hp => ?_)
      obtain ⟨rfl, rfl, rfl⟩ := hp
      refine aw_lret Y X rfl d_Ep_combine_167 (by omega) (by omega) (hP _ _ _ ?_)
      -- ret 167 lv=0:r,1:n,2:l,4:l st=l
      exact ⟨rfl, hxx _ (by rw [hcm]), by rw [hcm]; simp [*]⟩
  by_cases q43 : o = 43
  · have hcm : cmbS o a b = (a + b, false) := by rw [cmbS, if_neg q38, if_neg q124, if_neg q60, if_neg q62, if_neg q61, if_pos q43]
    subst q43
    refine aw_lookup (pc := 1) X (off := 167) (tgt := 168) d_Ep_combine_1 (by decide) (by rw [hT]; decide) (by rfl) ?_
    refine aw_lload_n (pc := 168) X d_Ep_combine_168 (by rfl) ?_
    refine aw_lload (pc := 169) X d_Ep_combine_169 (by rfl) ?_
    refine aw_ladd (pc := 171) X d_Ep_combine_171 ?_
    refine aw_lret Y X rfl d_Ep_combine_172 (by omega) (by omega) (hP _ _ _ ?_)
    -- ret 172 lv=0:r,1:n,2:l,4:l st=l
    exact ⟨rfl, hxx _ (by rw [hcm]), by rw [hcm]⟩
  by_cases q45 : o = 45
  · have hcm : cmbS o a b = (a - b, false) := by rw [cmbS, if_neg q38, if_neg q124, if_neg q60, if_neg q62, if_neg q61, if_neg q43, if_pos q45]
    subst q45
    refine aw_lookup (pc := 1) X (off := 172) (tgt := 173) d_Ep_combine_1 (by decide) (by rw [hT]; decide) (by rfl) ?_
    refine aw_lload_n (pc := 173) X d_Ep_combine_173 (by rfl) ?_
    refine aw_lload (pc := 174) X d_Ep_combine_174 (by rfl) ?_
    refine aw_lsub (pc := 176) X d_Ep_combine_176 ?_
    refine aw_lret Y X rfl d_Ep_combine_177 (by omega) (by omega) (hP _ _ _ ?_)
    -- ret 177 lv=0:r,1:n,2:l,4:l st=l
    exact ⟨rfl, hxx _ (by rw [hcm]), by rw [hcm]⟩
  by_cases q42 : o = 42
  · have hcm : cmbS o a b = (a * b, false) := by rw [cmbS, if_neg q38, if_neg q124, if_neg q60, if_neg q62, if_neg q61, if_neg q43, if_neg q45, if_pos q42]
    subst q42
    refine aw_lookup (pc := 1) X (off := 177) (tgt := 178) d_Ep_combine_1 (by decide) (by rw [hT]; decide) (by rfl) ?_
    refine aw_lload_n (pc := 178) X d_Ep_combine_178 (by rfl) ?_
    refine aw_lload (pc := 179) X d_Ep_combine_179 (by rfl) ?_
    refine aw_lmul (pc := 181) X d_Ep_combine_181 ?_
    refine aw_lret Y X rfl d_Ep_combine_182 (by omega) (by omega) (hP _ _ _ ?_)
    -- ret 182 lv=0:r,1:n,2:l,4:l st=l
    exact ⟨rfl, hxx _ (by rw [hcm]), by rw [hcm]⟩
  refine aw_lookup (pc := 1) X (off := 182) (tgt := 183) d_Ep_combine_1 (by decide) (by
    rw [hT]
    simp only [Op.lookupswitch.offset_cons, lko_nil]
    repeat rw [if_neg (by omega)]) (by rfl) ?_
  refine aw_aload_nR (pc := 183) X d_Ep_combine_183 (by rfl) ?_
  refine aw_iload_n (pc := 184) X d_Ep_combine_184 (by rfl) ?_
  refine aw_lload_n (pc := 185) X d_Ep_combine_185 (by rfl) ?_
  refine aw_lload (pc := 186) X d_Ep_combine_186 (by rfl) ?_
  -- invokevirtual 188 lv=0:r,1:n,2:l,4:l st=l,l,n,r
  refine aw_callV (pc := 188) X _ (c_Ep_divide (d := 0) (x := x) hnx ho) q_Ep_divide k_766 k_768 k_20 (by omega) e1 (by rfl) d_Ep_combine_188 (by omega) (Nat.le_of_ble_eq_true rfl) ⟨by omega, by omega⟩ (fun h => by cases h) (fun r w2 nx2 hp => ?_)
  obtain ⟨rfl, ⟨z, rfl, rfl⟩ | ⟨z, rfl, rfl⟩⟩ := hp
  · have hcm : cmbS o a b = (0, true) := by rw [cmbS, if_neg q38, if_neg q124, if_neg q60, if_neg q62, if_neg q61, if_neg q43, if_neg q45, if_neg q42, if_pos z]
    refine aw_lret Y X rfl d_Ep_combine_191 (by omega) (by omega) (hP _ _ _ ?_)
    -- ret 191 lv=0:r,1:n,2:l,4:l st=l
    exact ⟨rfl, by rw [hcm, Bool.or_true], by rw [hcm]⟩
  · have hcm : cmbS o a b = (if o = 47 then a / b else a - a / b * b, false) := by
      rw [cmbS, if_neg q38, if_neg q124, if_neg q60, if_neg q62, if_neg q61, if_neg q43, if_neg q45, if_neg q42, if_neg z]
      split <;> rfl
    refine aw_lret Y X rfl d_Ep_combine_191 (by omega) (by omega) (hP _ _ _ ?_)
    -- ret 191 lv=0:r,1:n,2:l,4:l st=l
    exact ⟨rfl, hxx _ (by rw [hcm]), by rw [hcm]⟩
/-- the value of a text: fuel; strength (5: an operand); depth; what stands at the left, if it is in the loop -/
def ev (S : List Nat) : Nat → Nat → Nat → Int64 → Bool → ES → Option (Int64 × ES)
  | 0, _, _, _, _, _ => none
  | f + 1, s, dp, l, true, x =>
    if x.2.1 = false ∧ x.1 < S.length ∧ strS (S.getD x.1 0) = s then
      (ev S f (s + 1) dp 0 false (x.1 + 1, x.2)).bind fun q => ev S f s dp (cmbS (S.getD x.1 0) l q.1).1 true (q.2.1, q.2.2.1, q.2.2.2 || (cmbS (S.getD x.1 0) l q.1).2)
    else some (l, x)
  | f + 1, s, dp, _, false, x =>
    if s ≤ 4 then (ev S f (s + 1) dp 0 false x).bind fun q => ev S f s dp q.1 true q.2
    else if S.getD x.1 0 = 45 then (if 6 ≤ dp then some (0, x.1, true, x.2.2) else (ev S f 5 (dp + 1) 0 false (x.1 + 1, x.2)).bind fun q => some (-q.1, q.2))
    else if S.getD x.1 0 = 40 then (if 6 ≤ dp then some (0, x.1, true, x.2.2) else (ev S f 1 (dp + 1) 0 false (x.1 + 1, x.2)).bind fun q => some (q.1, if S.getD q.2.1 0 = 41 then (q.2.1 + 1, q.2.2) else (q.2.1, true, q.2.2.2)))
    else some ((numV 0 (S.drop x.1)).1, x.1 + (numV 0 (S.drop x.1)).2, x.2.1 || decide ((numV 0 (S.drop x.1)).2 = 0), x.2.2)
end
end
section
/-! Expression.level, operand, reckon -/
theorem sl_D {S : List Nat} {gg : Nat → Nat} (h : S = sl gg 0 S.length) {i : Nat} (hi : i < S.length) : S.getD i 0 = gg i := by
  have q : S.getD i 0 = (sl gg 0 S.length).getD i 0 := congrArg (fun l => l.getD i 0) h
  rw [q, sl_getD hi, Nat.zero_add]
theorem getD_ge {S : List Nat} {i : Nat} (hi : S.length ≤ i) : S.getD i 0 = 0 := by
  rw [List.getD_eq_getElem?_getD, List.getElem?_eq_none_iff.mpr hi]
  rfl
theorem ev_le (S : List Nat) : ∀ (f s dp : Nat) (l : Int64) (m : Bool) (x : ES) (v : Int64) (x' : ES), ev S f s dp l m x = some (v, x') → x.1 ≤ S.length → x'.1 ≤ S.length := by
  intro f
  induction f with
  | zero => intro s dp l m x v x' h; cases m <;> simp [ev] at h
  | succ f ih =>
    intro s dp l m x v x' h hx
    cases m with
    | true =>
      rw [ev] at h
      split at h
      · rename_i hc
        obtain ⟨q, h1, h2⟩ := Option.bind_eq_some_iff.mp h
        have h3 := ih _ _ _ _ _ _ _ h1 (show (x.1 + 1, x.2).1 ≤ S.length from hc.2.1)
        exact ih _ _ _ _ _ _ _ h2 h3
      · cases h; exact hx
    | false =>
      rw [ev] at h
      split at h
      · obtain ⟨q, h1, h2⟩ := Option.bind_eq_some_iff.mp h
        exact ih _ _ _ _ _ _ _ h2 (ih _ _ _ _ _ _ _ h1 hx)
      · have hlt : ∀ c : Nat, c ≠ 0 → S.getD x.1 0 = c → x.1 + 1 ≤ S.length := fun c hc h => by
          refine Nat.lt_of_not_le fun hge => hc ?_
          rw [← h, getD_ge hge]
        split at h
        · rename_i h45
          split at h
          · cases h; exact hx
          · obtain ⟨q, h1, h2⟩ := Option.bind_eq_some_iff.mp h
            cases h2
            exact ih _ _ _ _ _ _ _ h1 (hlt 45 (by decide) h45)
        · split at h
          · rename_i h40
            split at h
            · cases h; exact hx
            · obtain ⟨q, h1, h2⟩ := Option.bind_eq_some_iff.mp h
              have hq := ih _ _ _ _ _ _ _ h1 (hlt 40 (by decide) h40)
              cases h2
              split
              · rename_i h41
                refine Nat.lt_of_not_le fun hge => ?_
                rw [getD_ge hge] at h41
                cases h41
              · exact hq
          · cases h
            have := numV_le 0 (S.drop x.1)
            simp at this ⊢
            omega
theorem ev_succ (S : List Nat) : ∀ (f s dp : Nat) (l : Int64) (m : Bool) (x : ES) (r : Int64 × ES), ev S f s dp l m x = some r → ev S (f + 1) s dp l m x = some r := by
  intro f
  induction f with
  | zero => intro s dp l m x r h; cases m <;> simp [ev] at h
  | succ f ih =>
    intro s dp l m x r h
    cases m with
    | true =>
      rw [ev] at h ⊢
      split at h
      · rename_i hc
        rw [if_pos hc]
        obtain ⟨q, h1, h2⟩ := Option.bind_eq_some_iff.mp h
        exact Option.bind_eq_some_iff.mpr ⟨q, ih _ _ _ _ _ _ h1, ih _ _ _ _ _ _ h2⟩
      · rename_i hc
        rw [if_neg hc]
        exact h
    | false =>
      rw [ev] at h ⊢
      split at h
      · rename_i hc
        rw [if_pos hc]
        obtain ⟨q, h1, h2⟩ := Option.bind_eq_some_iff.mp h
        exact Option.bind_eq_some_iff.mpr ⟨q, ih _ _ _ _ _ _ h1, ih _ _ _ _ _ _ h2⟩
      · rename_i hc
        rw [if_neg hc]
        split at h
        · rename_i h45
          rw [if_pos h45]
          split at h
          · rename_i h6; rw [if_pos h6]; exact h
          · rename_i h6
            rw [if_neg h6]
            obtain ⟨q, h1, h2⟩ := Option.bind_eq_some_iff.mp h
            exact Option.bind_eq_some_iff.mpr ⟨q, ih _ _ _ _ _ _ h1, h2⟩
        · rename_i h45
          rw [if_neg h45]
          split at h
          · rename_i h40
            rw [if_pos h40]
            split at h
            · rename_i h6; rw [if_pos h6]; exact h
            · rename_i h6
              rw [if_neg h6]
              obtain ⟨q, h1, h2⟩ := Option.bind_eq_some_iff.mp h
              exact Option.bind_eq_some_iff.mpr ⟨q, ih _ _ _ _ _ _ h1, h2⟩
          · rename_i h40
            rw [if_neg h40]
            exact h
theorem ev_mono (S : List Nat) {f g s dp : Nat} {l : Int64} {m : Bool} {x : ES} {r : Int64 × ES} (h : ev S f s dp l m x = some r) (hg : f ≤ g) : ev S g s dp l m x = some r := by
  obtain ⟨k, rfl⟩ := Nat.le.dest hg
  clear hg
  induction k with
  | zero => exact h
  | succ k ih => exact ev_succ S _ _ _ _ _ _ _ ih
section
variable {G : aw_G}
theorem ev_AC (S : List Nat) : ∀ (f s dp d nx : Nat) (w : Nat → va_E) (x : ES) (v : Int64) (x' : ES), ev S f s dp 0 false x = some (v, x') → 1 ≤ s → s ≤ 5 → dp ≤ 6 → x.1 ≤ S.length → hTx G w 414 400 S → 416 ≤ nx →
    ((7 - dp) * 7 + (6 - s) + 3 ≤ d → AC G y_Ep_level b_Ep_level 6 (some .long) d false [rf G 413, .int (nI s), .int (nI dp)] nx (wE G w x) 0 0 (fun r w' nx' => nx' = nx ∧ w' = wE G w x' ∧ r = some (.long v))) ∧
    (s = 5 → (7 - dp) * 7 + 3 ≤ d → AC G y_Ep_operand b_Ep_operand 5 (some .long) d false [rf G 413, .int (nI dp)] nx (wE G w x) 0 0 (fun r w' nx' => nx' = nx ∧ w' = wE G w x' ∧ r = some (.long v))) := by
  intro f
  induction f with
  | zero => intro s dp d nx w x v x' h; simp [ev] at h
  | succ f ih =>
    intro s dp d nx w x v x' h hs1 hs5 hdp hx hS hnx
    obtain ⟨gg, s2, s3, s4⟩ := hS.arr
    have s1 := hS.obj
    have hl := hS.le
    have hOp : ∀ d, s = 5 → (7 - dp) * 7 + 3 ≤ d → AC G y_Ep_operand b_Ep_operand 5 (some .long) d false [rf G 413, .int (nI dp)] nx (wE G w x) 0 0 (fun r w' nx' => nx' = nx ∧ w' = wE G w x' ∧ r = some (.long v)) := by
      intro d hs hd
      subst hs
      have hl0 := h
      rw [ev, if_neg (by omega)] at hl0
      have e1 := wE_at G w x
      have e2 : wE G w x 414 = oTx G 415 S.length := (wE_ne G w _ (by omega)).trans s1
      have e3 : wE G w x 415 = aCh G 400 gg := (wE_ne G w _ (by omega)).trans s2
      refine AC.ofW (by decide) (Nat.le_of_ble_eq_true rfl) ?_
      intro E P hP Y X
      have X : aw_X G "RescanDesk$Expression" b_Ep_operand 5 (some .long) "operand" _ _ _ _ _ E := X
      refine AW.eql (lv' := [(0, _), (1, _)]) (by rfl) ?_
      have T : ∀ c, c = S.getD x.1 0 → AW G E 5 nx 0 0 (wE G w x) 30 [(0, rf G 413), (1, .int (nI dp))] [.int (nI c)] := by
        intro c hc
        have hc16 : c < 65536 := by
          by_cases q : x.1 < S.length
          · rw [hc, sl_D s3 q]; exact s4 _
          · rw [hc, getD_ge (by omega)]; omega
        have hlt : c ≠ 0 → x.1 + 1 ≤ S.length := fun hc0 => Nat.lt_of_not_le fun hge => hc0 (by rw [hc, getD_ge hge])
        have J : (c = 45 ∨ c = 40) → AW G E 5 nx 0 0 (wE G w x) 48 [(2, .int (nI c)), (0, rf G 413), (1, .int (nI dp))] [] := by
          intro hcc
          have hx1 := hlt (by omega)
          refine aw_iload_n (pc := 48) X d_Ep_operand_48 (by rfl) ?_
          refine aw_bipushN (pc := 49) X 6 d_Ep_operand_49 (by decide) ?_
          refine aw_icmp_ltN (pc := 51) X (tgt := 61) d_Ep_operand_51 (by rfl) (by omega) (by omega) (fun h51 => ?_) (fun h51 => ?_)
          -- br 51 lv=2:n,0:r,1:n st=
          · -- room for one more
            have D : ∀ s', 1 ≤ s' → True := fun _ _ => trivial
            refine aw_aload_nR (pc := 61) X d_Ep_operand_61 (by rfl) ?_
            refine aw_dup (pc := 62) X d_Ep_operand_62 (by rfl) ?_
            refine aw_getO (pc := 63) X _ 1 (by omega) (by (repeat (first | rw [aw_up_eq] | rw [aw_up_ne _ _ (by first | assumption | omega)])) <;> first | assumption | rfl) (by rfl) in_Ep (by decide) k_342 (by rfl) d_Ep_operand_63 ?_
            refine aw_iconstN (pc := 66) X 1 d_Ep_operand_66 (by decide) ?_
            refine aw_iaddN (pc := 67) X d_Ep_operand_67 ?_
            refine aw_putO (pc := 68) X _ 1 (by omega) (by (repeat (first | rw [aw_up_eq] | rw [aw_up_ne _ _ (by first | assumption | omega)])) <;> first | assumption | rfl) (by rfl) in_Ep (by decide) ty_Ep ok_Ep nm_Ep k_342 (by rfl) (by rfl) (by rfl) (by simp) (fs' := [_, _, _, _]) (by rfl) d_Ep_operand_68 ?_
            -- stop 71 lv=2:n,0:r,1:n st=
            refine AW.eqw (wE_up G w x (x.1 + 1, x.2)) ?_
            refine aw_iload_n (pc := 71) X d_Ep_operand_71 (by rfl) ?_
            refine aw_bipushN (pc := 72) X 45 d_Ep_operand_72 (by decide) ?_
            refine aw_icmp_neN (pc := 74) X (tgt := 86) d_Ep_operand_74 (by rfl) (by omega) (by omega) (fun h74 => ?_) (fun h74 => ?_)
            -- br 74 lv=2:n,0:r,1:n st=
            · have hc40 : c = 40 := by omega
              rw [if_neg (by rw [← hc]; omega), if_pos (by rw [← hc]; exact hc40), if_neg (by omega)] at hl0
              obtain ⟨q, h1, h2⟩ := Option.bind_eq_some_iff.mp hl0
              have hq := ev_le S _ _ _ _ _ _ _ _ h1 hx1
              refine aw_aload_nR (pc := 86) X d_Ep_operand_86 (by rfl) ?_
              refine aw_iconstN (pc := 87) X 1 d_Ep_operand_87 (by decide) ?_
              refine aw_iload_n (pc := 88) X d_Ep_operand_88 (by rfl) ?_
              refine aw_iconstN (pc := 89) X 1 d_Ep_operand_89 (by decide) ?_
              refine aw_iaddN (pc := 90) X d_Ep_operand_90 ?_
              -- invokevirtual 91 lv=2:n,0:r,1:n st=n,n,r
              refine aw_callV (pc := 91) X _ ((ih 1 (dp + 1) ((7 - (dp + 1)) * 7 + 8) nx w _ _ _ h1 (by omega) (by omega) (by omega) hx1 hS hnx).1 (by omega)) q_Ep_level k_742 k_744 k_16 (by omega) (wE_at _ _ _) (by rfl) d_Ep_operand_91 (by omega) (Nat.le_of_ble_eq_true rfl) ⟨by omega, by omega⟩ (fun h => by cases h) (fun r w2 nx2 hp => ?_)
              obtain ⟨rfl, rfl, rfl⟩ := hp
              have e1 := wE_at G w q.2
              have e2 : wE G w q.2 414 = oTx G 415 S.length := (wE_ne G w _ (by omega)).trans s1
              have e3 : wE G w q.2 415 = aCh G 400 gg := (wE_ne G w _ (by omega)).trans s2
              have s4q := s4 q.2.1
              have W1 : S.getD q.2.1 0 ≠ 41 → AW G E 5 nx2 0 0 (wE G w q.2) 139 [(3, .long q.1), (2, .int (nI c)), (0, rf G 413), (1, .int (nI dp))] [] := by
                intro hne
                rw [if_neg hne] at h2
                refine aw_aload_nR (pc := 139) X d_Ep_operand_139 (by rfl) ?_
                refine aw_iconstN (pc := 140) X 1 d_Ep_operand_140 (by decide) ?_
                refine aw_putO (pc := 141) X _ 2 (by omega) (by (repeat (first | rw [aw_up_eq] | rw [aw_up_ne _ _ (by first | assumption | omega)])) <;> first | assumption | rfl) (by rfl) in_Ep (by decide) ty_Ep ok_Ep nm_Ep k_343 (by rfl) (by decide +kernel) (by decide +kernel) (by simp) (fs' := [_, _, _, _]) (by rfl) d_Ep_operand_141 ?_
                refine aw_lload_n (pc := 144) X d_Ep_operand_144 (by rfl) ?_
                refine aw_lret Y X rfl d_Ep_operand_145 (by omega) (by omega) (hP _ _ _ ?_)
                -- ret 145 lv=3:l,2:n,0:r,1:n st=l
                cases h2
                exact ⟨rfl, wE_up G w q.2 (q.2.1, true, q.2.2.2), rfl⟩
              refine aw_lstore_n (pc := 94) X (lv' := [(3, _), (2, _), (0, _), (1, _)]) d_Ep_operand_94 (by decide) (by rfl) ?_
              refine aw_aload_nR (pc := 95) X d_Ep_operand_95 (by rfl) ?_
              refine aw_getO (pc := 96) X _ 1 (by omega) (by (repeat (first | rw [aw_up_eq] | rw [aw_up_ne _ _ (by first | assumption | omega)])) <;> first | assumption | rfl) (by rfl) in_Ep (by decide) k_342 (by rfl) d_Ep_operand_96 ?_
              refine aw_aload_nR (pc := 99) X d_Ep_operand_99 (by rfl) ?_
              refine aw_getO (pc := 100) X _ 0 (by omega) (by (repeat (first | rw [aw_up_eq] | rw [aw_up_ne _ _ (by first | assumption | omega)])) <;> first | assumption | rfl) (by rfl) in_Ep (by decide) k_341 (by rfl) d_Ep_operand_100 ?_
              refine aw_getNO (pc := 103) X _ 1 (by omega) (by (repeat (first | rw [aw_up_eq] | rw [aw_up_ne _ _ (by first | assumption | omega)])) <;> first | assumption | rfl) (by rfl) in_Tx (by decide) k_112 (by rfl) d_Ep_operand_103 ?_
              refine aw_icmp_geN (pc := 106) X (tgt := 139) d_Ep_operand_106 (by rfl) (by omega) (by omega) (fun h106 => ?_) (fun h106 => ?_)
              -- br 106 lv=3:l,2:n,0:r,1:n st=
              · exact W1 (by rw [getD_ge h106]; decide)
              · have hgd := sl_D s3 h106
                refine aw_aload_nR (pc := 109) X d_Ep_operand_109 (by rfl) ?_
                refine aw_getO (pc := 110) X _ 0 (by omega) (by (repeat (first | rw [aw_up_eq] | rw [aw_up_ne _ _ (by first | assumption | omega)])) <;> first | assumption | rfl) (by rfl) in_Ep (by decide) k_341 (by rfl) d_Ep_operand_110 ?_
                refine aw_getNO (pc := 113) X _ 0 (by omega) (by (repeat (first | rw [aw_up_eq] | rw [aw_up_ne _ _ (by first | assumption | omega)])) <;> first | assumption | rfl) (by rfl) in_Tx (by decide) k_106 (by rfl) d_Ep_operand_113 ?_
                refine aw_aload_nR (pc := 116) X d_Ep_operand_116 (by rfl) ?_
                refine aw_getO (pc := 117) X _ 1 (by omega) (by (repeat (first | rw [aw_up_eq] | rw [aw_up_ne _ _ (by first | assumption | omega)])) <;> first | assumption | rfl) (by rfl) in_Ep (by decide) k_342 (by rfl) d_Ep_operand_117 ?_
                refine aw_caldN (pc := 120) X _ 0 (by omega) (by (repeat (first | rw [aw_up_eq] | rw [aw_up_ne _ _ (by first | assumption | omega)])) <;> first | assumption | rfl) (by rfl) (by omega) (by omega) d_Ep_operand_120 ?_
                refine aw_bipushN (pc := 121) X 41 d_Ep_operand_121 (by decide) ?_
                refine aw_icmp_neN (pc := 123) X (tgt := 139) d_Ep_operand_123 (by rfl) (by omega) (by omega) (fun h123 => ?_) (fun h123 => ?_)
                -- br 123 lv=3:l,2:n,0:r,1:n st=
                · exact W1 (by rw [hgd]; exact h123)
                · rw [if_pos (by rw [hgd]; exact h123)] at h2
                  refine aw_aload_nR (pc := 126) X d_Ep_operand_126 (by rfl) ?_
                  refine aw_dup (pc := 127) X d_Ep_operand_127 (by rfl) ?_
                  refine aw_getO (pc := 128) X _ 1 (by omega) (by (repeat (first | rw [aw_up_eq] | rw [aw_up_ne _ _ (by first | assumption | omega)])) <;> first | assumption | rfl) (by rfl) in_Ep (by decide) k_342 (by rfl) d_Ep_operand_128 ?_
                  refine aw_iconstN (pc := 131) X 1 d_Ep_operand_131 (by decide) ?_
                  refine aw_iaddN (pc := 132) X d_Ep_operand_132 ?_
                  refine aw_putO (pc := 133) X _ 1 (by omega) (by (repeat (first | rw [aw_up_eq] | rw [aw_up_ne _ _ (by first | assumption | omega)])) <;> first | assumption | rfl) (by rfl) in_Ep (by decide) ty_Ep ok_Ep nm_Ep k_342 (by rfl) (by rfl) (by rfl) (by simp) (fs' := [_, _, _, _]) (by rfl) d_Ep_operand_133 ?_
                  refine aw_goto (pc := 136) X (tgt := 144) d_Ep_operand_136 (by rfl) ?_
                  refine aw_lload_n (pc := 144) X d_Ep_operand_144 (by rfl) ?_
                  refine aw_lret Y X rfl d_Ep_operand_145 (by omega) (by omega) (hP _ _ _ ?_)
                  -- ret 145 lv=3:l,2:n,0:r,1:n st=l
                  cases h2
                  exact ⟨rfl, wE_up G w q.2 (q.2.1 + 1, q.2.2), rfl⟩
            · rw [if_pos (by rw [← hc]; exact h74), if_neg (by omega)] at hl0
              obtain ⟨q, h1, h2⟩ := Option.bind_eq_some_iff.mp hl0
              refine aw_aload_nR (pc := 77) X d_Ep_operand_77 (by rfl) ?_
              refine aw_iload_n (pc := 78) X d_Ep_operand_78 (by rfl) ?_
              refine aw_iconstN (pc := 79) X 1 d_Ep_operand_79 (by decide) ?_
              refine aw_iaddN (pc := 80) X d_Ep_operand_80 ?_
              -- invokevirtual 81 lv=2:n,0:r,1:n st=n,r
              refine aw_callV (pc := 81) X _ ((ih 5 (dp + 1) ((7 - (dp + 1)) * 7 + 8) nx w _ _ _ h1 (by omega) (by omega) (by omega) hx1 hS hnx).2 rfl (by omega)) q_Ep_operand k_746 k_748 k_17 (by omega) (wE_at _ _ _) (by rfl) d_Ep_operand_81 (by omega) (Nat.le_of_ble_eq_true rfl) ⟨by omega, by omega⟩ (fun h => by cases h) (fun r w2 nx2 hp => ?_)
              obtain ⟨rfl, rfl, rfl⟩ := hp
              refine aw_lneg (pc := 84) X d_Ep_operand_84 ?_
              refine aw_lret Y X rfl d_Ep_operand_85 (by omega) (by omega) (hP _ _ _ ?_)
              -- ret 85 lv=2:n,0:r,1:n st=l
              cases h2
              exact ⟨rfl, rfl, rfl⟩
          · have hz : (v, x') = (0, x.1, true, x.2.2) := by
              rcases hcc with q | q
              · rw [if_pos (by rw [← hc]; exact q), if_pos (by omega)] at hl0
                exact (Option.some.inj hl0).symm
              · rw [if_neg (by rw [← hc]; omega), if_pos (by rw [← hc]; exact q), if_pos (by omega)] at hl0
                exact (Option.some.inj hl0).symm
            refine aw_aload_nR (pc := 54) X d_Ep_operand_54 (by rfl) ?_
            refine aw_iconstN (pc := 55) X 1 d_Ep_operand_55 (by decide) ?_
            refine aw_putO (pc := 56) X _ 2 (by omega) (by (repeat (first | rw [aw_up_eq] | rw [aw_up_ne _ _ (by first | assumption | omega)])) <;> first | assumption | rfl) (by rfl) in_Ep (by decide) ty_Ep ok_Ep nm_Ep k_343 (by rfl) (by decide +kernel) (by decide +kernel) (by simp) (fs' := [_, _, _, _]) (by rfl) d_Ep_operand_56 ?_
            refine aw_lconst (pc := 59) X (v := 0) d_Ep_operand_59 (by decide) ?_
            refine aw_lret Y X rfl d_Ep_operand_60 (by omega) (by omega) (hP _ _ _ ?_)
            -- ret 60 lv=2:n,0:r,1:n st=l
            cases hz
            exact ⟨rfl, wE_up G w x (x.1, true, x.2.2), rfl⟩
        refine aw_istore_n (pc := 30) X (lv' := [(2, _), (0, _), (1, _)]) d_Ep_operand_30 (by decide) (by rfl) ?_
        refine aw_iload_n (pc := 31) X d_Ep_operand_31 (by rfl) ?_
        refine aw_bipushN (pc := 32) X 45 d_Ep_operand_32 (by decide) ?_
        refine aw_icmp_eqN (pc := 34) X (tgt := 48) d_Ep_operand_34 (by rfl) (by omega) (by omega) (fun h34 => ?_) (fun h34 => ?_)
        -- br 34 lv=2:n,0:r,1:n st=
        · exact J (Or.inl h34)
        · refine aw_iload_n (pc := 37) X d_Ep_operand_37 (by rfl) ?_
          refine aw_bipushN (pc := 38) X 40 d_Ep_operand_38 (by decide) ?_
          refine aw_icmp_eqN (pc := 40) X (tgt := 48) d_Ep_operand_40 (by rfl) (by omega) (by omega) (fun h40 => ?_) (fun h40 => ?_)
          -- br 40 lv=2:n,0:r,1:n st=
          · exact J (Or.inr h40)
          · rw [if_neg (by rw [← hc]; exact h34), if_neg (by rw [← hc]; exact h40)] at hl0
            refine aw_aload_nR (pc := 43) X d_Ep_operand_43 (by rfl) ?_
            -- invokevirtual 44 lv=2:n,0:r,1:n st=r
            refine aw_callV (pc := 44) X _ (c_Ep_number (d := 1) (x := x) (S := S) hnx (by omega) hx hS) q_Ep_number k_750 k_752 k_18 (by omega) e1 (by rfl) d_Ep_operand_44 (by omega) (Nat.le_of_ble_eq_true rfl) ⟨by omega, by omega⟩ (fun h => by cases h) (fun r w2 nx2 hp => ?_)
            obtain ⟨rfl, rfl, rfl⟩ := hp
            refine aw_lret Y X rfl d_Ep_operand_47 (by omega) (by omega) (hP _ _ _ ?_)
            -- ret 47 lv=2:n,0:r,1:n st=l
            cases hl0
            exact ⟨rfl, rfl, rfl⟩
      refine aw_aload_nR (pc := 0) X d_Ep_operand_0 (by rfl) ?_
      refine aw_getO (pc := 1) X _ 1 (by omega) (by (repeat (first | rw [aw_up_eq] | rw [aw_up_ne _ _ (by first | assumption | omega)])) <;> first | assumption | rfl) (by rfl) in_Ep (by decide) k_342 (by rfl) d_Ep_operand_1 ?_
      refine aw_aload_nR (pc := 4) X d_Ep_operand_4 (by rfl) ?_
      refine aw_getO (pc := 5) X _ 0 (by omega) (by (repeat (first | rw [aw_up_eq] | rw [aw_up_ne _ _ (by first | assumption | omega)])) <;> first | assumption | rfl) (by rfl) in_Ep (by decide) k_341 (by rfl) d_Ep_operand_5 ?_
      refine aw_getNO (pc := 8) X _ 1 (by omega) (by (repeat (first | rw [aw_up_eq] | rw [aw_up_ne _ _ (by first | assumption | omega)])) <;> first | assumption | rfl) (by rfl) in_Tx (by decide) k_112 (by rfl) d_Ep_operand_8 ?_
      refine aw_icmp_geN (pc := 11) X (tgt := 29) d_Ep_operand_11 (by rfl) (by omega) (by omega) (fun h11 => ?_) (fun h11 => ?_)
      -- br 11 lv=0:r,1:n st=
      · refine aw_iconstN (pc := 29) X 0 d_Ep_operand_29 (by decide) ?_
        -- stop 30 lv=0:r,1:n st=n
        exact T 0 (by rw [getD_ge h11])
      · have s4x := s4 x.1
        refine aw_aload_nR (pc := 14) X d_Ep_operand_14 (by rfl) ?_
        refine aw_getO (pc := 15) X _ 0 (by omega) (by (repeat (first | rw [aw_up_eq] | rw [aw_up_ne _ _ (by first | assumption | omega)])) <;> first | assumption | rfl) (by rfl) in_Ep (by decide) k_341 (by rfl) d_Ep_operand_15 ?_
        refine aw_getNO (pc := 18) X _ 0 (by omega) (by (repeat (first | rw [aw_up_eq] | rw [aw_up_ne _ _ (by first | assumption | omega)])) <;> first | assumption | rfl) (by rfl) in_Tx (by decide) k_106 (by rfl) d_Ep_operand_18 ?_
        refine aw_aload_nR (pc := 21) X d_Ep_operand_21 (by rfl) ?_
        refine aw_getO (pc := 22) X _ 1 (by omega) (by (repeat (first | rw [aw_up_eq] | rw [aw_up_ne _ _ (by first | assumption | omega)])) <;> first | assumption | rfl) (by rfl) in_Ep (by decide) k_342 (by rfl) d_Ep_operand_22 ?_
        refine aw_caldN (pc := 25) X _ 0 (by omega) (by (repeat (first | rw [aw_up_eq] | rw [aw_up_ne _ _ (by first | assumption | omega)])) <;> first | assumption | rfl) (by rfl) (by omega) (by omega) d_Ep_operand_25 ?_
        refine aw_goto (pc := 26) X (tgt := 30) d_Ep_operand_26 (by rfl) ?_
        -- stop 30 lv=0:r,1:n st=n
        exact T (gg x.1) (by rw [sl_D s3 h11])
    refine ⟨fun hd => ?_, hOp d⟩
    refine AC.ofW (by decide) (Nat.le_of_ble_eq_true rfl) ?_
    intro E P hP Y X
    have X : aw_X G "RescanDesk$Expression" b_Ep_level 6 (some .long) "level" _ _ _ _ _ E := X
    refine AW.eql (lv' := [(0, _), (1, _), (2, _)]) (by rfl) ?_
    by_cases h5 : s = 5
    · subst h5
      have e1 := wE_at G w x
      refine aw_iload_n (pc := 0) X d_Ep_level_0 (by rfl) ?_
      refine aw_iconstN (pc := 1) X 4 d_Ep_level_1 (by decide) ?_
      refine aw_icmp_leN (pc := 2) X (tgt := 11) d_Ep_level_2 (by rfl) (by omega) (by omega) (fun h2 => ?_) (fun h2 => ?_)
      -- br 2 lv=0:r,1:n,2:n st=
      · omega
      · refine aw_aload_nR (pc := 5) X d_Ep_level_5 (by rfl) ?_
        refine aw_iload_n (pc := 6) X d_Ep_level_6 (by rfl) ?_
        -- invokevirtual 7 lv=0:r,1:n,2:n st=n,r
        refine aw_callV (pc := 7) X _ (hOp ((7 - dp) * 7 + 3) rfl (by omega)) q_Ep_operand k_746 k_748 k_17 (by omega) e1 (by rfl) d_Ep_level_7 (by omega) (Nat.le_of_ble_eq_true rfl) ⟨by omega, by omega⟩ (fun h => by cases h) (fun r w2 nx2 hp => ?_)
        obtain ⟨rfl, rfl, rfl⟩ := hp
        refine aw_lret Y X rfl d_Ep_level_10 (by omega) (by omega) (hP _ _ _ ?_)
        -- ret 10 lv=0:r,1:n,2:n st=l
        exact ⟨rfl, rfl, rfl⟩
    · have hl0 := h
      rw [ev, if_pos (by omega)] at hl0
      obtain ⟨q, h1, hq2⟩ := Option.bind_eq_some_iff.mp hl0
      have hq := ev_le S _ _ _ _ _ _ _ _ h1 hx
      have L : ∀ (f' : Nat) (l : Int64) (y : ES), f' ≤ f → y.1 ≤ S.length → ev S f' s dp l true y = some (v, x') → AW G E 6 nx 0 0 (wE G w y) 20 [(3, .long l), (0, rf G 413), (1, .int (nI s)), (2, .int (nI dp))] [] := by
        intro f'
        induction f' with
        | zero => intro l y _ _ hy; simp [ev] at hy
        | succ f' ihL =>
          intro l y hf' hy1 hy
          rw [ev] at hy
          have e1 := wE_at G w y
          have e2 : wE G w y 414 = oTx G 415 S.length := (wE_ne G w _ (by omega)).trans s1
          have e3 : wE G w y 415 = aCh G 400 gg := (wE_ne G w _ (by omega)).trans s2
          have hb := bN_lt y.2.1
          have fin : ¬ (y.2.1 = false ∧ y.1 < S.length ∧ strS (S.getD y.1 0) = s) → ∀ lv, aw_lg lv 3 = some (.long l) → AW G E 6 nx 0 0 (wE G w y) 103 lv [] := fun hn lv hlv => by
            rw [if_neg hn] at hy
            refine aw_lload_n (pc := 103) X d_Ep_level_103 hlv ?_
            refine aw_lret Y X rfl d_Ep_level_104 (by omega) (by omega) (hP _ _ _ ?_)
            cases hy
            exact ⟨rfl, rfl, rfl⟩
          refine aw_aload_nR (pc := 20) X d_Ep_level_20 (by rfl) ?_
          refine aw_getO (pc := 21) X _ 2 (by omega) (by (repeat (first | rw [aw_up_eq] | rw [aw_up_ne _ _ (by first | assumption | omega)])) <;> first | assumption | rfl) (by rfl) in_Ep (by decide) k_343 (by rfl) d_Ep_level_21 ?_
          refine aw_if_neN (pc := 24) X (tgt := 103) d_Ep_level_24 (by rfl) (by omega) (fun h24 => ?_) (fun h24 => ?_)
          -- br 24 lv=3:l,0:r,1:n,2:n st=
          · exact fin (fun z => by rw [bN_ne.mp h24] at z; cases z.1) _ (by rfl)
          · have hw0 := bN_eq.mp h24
            refine aw_aload_nR (pc := 27) X d_Ep_level_27 (by rfl) ?_
            refine aw_getO (pc := 28) X _ 1 (by omega) (by (repeat (first | rw [aw_up_eq] | rw [aw_up_ne _ _ (by first | assumption | omega)])) <;> first | assumption | rfl) (by rfl) in_Ep (by decide) k_342 (by rfl) d_Ep_level_28 ?_
            refine aw_aload_nR (pc := 31) X d_Ep_level_31 (by rfl) ?_
            refine aw_getO (pc := 32) X _ 0 (by omega) (by (repeat (first | rw [aw_up_eq] | rw [aw_up_ne _ _ (by first | assumption | omega)])) <;> first | assumption | rfl) (by rfl) in_Ep (by decide) k_341 (by rfl) d_Ep_level_32 ?_
            refine aw_getNO (pc := 35) X _ 1 (by omega) (by (repeat (first | rw [aw_up_eq] | rw [aw_up_ne _ _ (by first | assumption | omega)])) <;> first | assumption | rfl) (by rfl) in_Tx (by decide) k_112 (by rfl) d_Ep_level_35 ?_
            refine aw_icmp_geN (pc := 38) X (tgt := 103) d_Ep_level_38 (by rfl) (by omega) (by omega) (fun h38 => ?_) (fun h38 => ?_)
            -- br 38 lv=3:l,0:r,1:n,2:n st=
            · exact fin (fun z => by omega) _ (by rfl)
            · have hgd := sl_D s3 h38
              have s4y := s4 y.1
              refine aw_aload_nR (pc := 41) X d_Ep_level_41 (by rfl) ?_
              refine aw_getO (pc := 42) X _ 0 (by omega) (by (repeat (first | rw [aw_up_eq] | rw [aw_up_ne _ _ (by first | assumption | omega)])) <;> first | assumption | rfl) (by rfl) in_Ep (by decide) k_341 (by rfl) d_Ep_level_42 ?_
              refine aw_getNO (pc := 45) X _ 0 (by omega) (by (repeat (first | rw [aw_up_eq] | rw [aw_up_ne _ _ (by first | assumption | omega)])) <;> first | assumption | rfl) (by rfl) in_Tx (by decide) k_106 (by rfl) d_Ep_level_45 ?_
              refine aw_aload_nR (pc := 48) X d_Ep_level_48 (by rfl) ?_
              refine aw_getO (pc := 49) X _ 1 (by omega) (by (repeat (first | rw [aw_up_eq] | rw [aw_up_ne _ _ (by first | assumption | omega)])) <;> first | assumption | rfl) (by rfl) in_Ep (by decide) k_342 (by rfl) d_Ep_level_49 ?_
              refine aw_caldN (pc := 52) X _ 0 (by omega) (by (repeat (first | rw [aw_up_eq] | rw [aw_up_ne _ _ (by first | assumption | omega)])) <;> first | assumption | rfl) (by rfl) (by omega) (by omega) d_Ep_level_52 ?_
              -- invokestatic 53 lv=3:l,0:r,1:n,2:n st=n
              refine aw_callS (pc := 53) X (c_Ep_strengthOf (d := 0) s4y) q_Ep_strengthOf k_756 k_757 d_Ep_level_53 (by omega) (Nat.le_of_ble_eq_true rfl) ⟨by omega, by omega⟩ (fun h => by cases h) (fun r w2 nx2 hp => ?_)
              obtain ⟨rfl, rfl, rfl⟩ := hp
              have hst4 : strS (gg y.1) < 5 := by unfold strS; repeat (first | split | omega)
              refine aw_iload_n (pc := 56) X d_Ep_level_56 (by rfl) ?_
              refine aw_icmp_neN (pc := 57) X (tgt := 103) d_Ep_level_57 (by rfl) (by omega) (by omega) (fun h57 => ?_) (fun h57 => ?_)
              -- br 57 lv=3:l,0:r,1:n,2:n st=
              · exact fin (fun z => h57 (by rw [← hgd]; exact z.2.2)) _ (by rfl)
              · rw [if_pos ⟨hw0, h38, by rw [hgd]; exact h57⟩, hgd] at hy
                obtain ⟨u, hu1, hu2⟩ := Option.bind_eq_some_iff.mp hy
                have hu3 := ev_le S _ _ _ _ _ _ _ _ hu1 (show (y.1 + 1, y.2).1 ≤ S.length from h38)
                refine aw_aload_nR (pc := 60) X d_Ep_level_60 (by rfl) ?_
                refine aw_getO (pc := 61) X _ 0 (by omega) (by (repeat (first | rw [aw_up_eq] | rw [aw_up_ne _ _ (by first | assumption | omega)])) <;> first | assumption | rfl) (by rfl) in_Ep (by decide) k_341 (by rfl) d_Ep_level_61 ?_
                refine aw_getNO (pc := 64) X _ 0 (by omega) (by (repeat (first | rw [aw_up_eq] | rw [aw_up_ne _ _ (by first | assumption | omega)])) <;> first | assumption | rfl) (by rfl) in_Tx (by decide) k_106 (by rfl) d_Ep_level_64 ?_
                refine aw_aload_nR (pc := 67) X d_Ep_level_67 (by rfl) ?_
                refine aw_getO (pc := 68) X _ 1 (by omega) (by (repeat (first | rw [aw_up_eq] | rw [aw_up_ne _ _ (by first | assumption | omega)])) <;> first | assumption | rfl) (by rfl) in_Ep (by decide) k_342 (by rfl) d_Ep_level_68 ?_
                refine aw_caldN (pc := 71) X _ 0 (by omega) (by (repeat (first | rw [aw_up_eq] | rw [aw_up_ne _ _ (by first | assumption | omega)])) <;> first | assumption | rfl) (by rfl) (by omega) (by omega) d_Ep_level_71 ?_
                refine aw_istore (pc := 72) X (lv' := [(5, _), (3, _), (0, _), (1, _), (2, _)]) d_Ep_level_72 (by decide) (by rfl) ?_
                refine aw_aload_nR (pc := 74) X d_Ep_level_74 (by rfl) ?_
                refine aw_dup (pc := 75) X d_Ep_level_75 (by rfl) ?_
                refine aw_getO (pc := 76) X _ 1 (by omega) (by (repeat (first | rw [aw_up_eq] | rw [aw_up_ne _ _ (by first | assumption | omega)])) <;> first | assumption | rfl) (by rfl) in_Ep (by decide) k_342 (by rfl) d_Ep_level_76 ?_
                refine aw_iconstN (pc := 79) X 1 d_Ep_level_79 (by decide) ?_
                refine aw_iaddN (pc := 80) X d_Ep_level_80 ?_
                refine aw_putO (pc := 81) X _ 1 (by omega) (by (repeat (first | rw [aw_up_eq] | rw [aw_up_ne _ _ (by first | assumption | omega)])) <;> first | assumption | rfl) (by rfl) in_Ep (by decide) ty_Ep ok_Ep nm_Ep k_342 (by rfl) (by rfl) (by rfl) (by simp) (fs' := [_, _, _, _]) (by rfl) d_Ep_level_81 ?_
                -- stop 84 lv=5:n,3:l,0:r,1:n,2:n st=
                refine AW.eqw (wE_up G w y (y.1 + 1, y.2)) ?_
                refine aw_aload_nR (pc := 84) X d_Ep_level_84 (by rfl) ?_
                refine aw_iload (pc := 85) X d_Ep_level_85 (by rfl) ?_
                refine aw_lload_n (pc := 87) X d_Ep_level_87 (by rfl) ?_
                refine aw_aload_nR (pc := 88) X d_Ep_level_88 (by rfl) ?_
                refine aw_iload_n (pc := 89) X d_Ep_level_89 (by rfl) ?_
                refine aw_iconstN (pc := 90) X 1 d_Ep_level_90 (by decide) ?_
                refine aw_iaddN (pc := 91) X d_Ep_level_91 ?_
                refine aw_iload_n (pc := 92) X d_Ep_level_92 (by rfl) ?_
                -- invokevirtual 93 lv=5:n,3:l,0:r,1:n,2:n st=n,n,r,l,n,r
                have hev : ev S f (s + 1) dp 0 false (y.1 + 1, y.2) = some u := ev_mono S hu1 (by omega)
                refine aw_callV (pc := 93) X _ ((ih (s + 1) dp ((7 - dp) * 7 + (6 - (s + 1)) + 3) nx2 w _ _ _ hev (by omega) (by omega) hdp (show (y.1 + 1, y.2).1 ≤ S.length from h38) hS hnx).1 (Nat.le_refl _)) q_Ep_level k_742 k_744 k_16 (by omega) (wE_at _ _ _) (by rfl) d_Ep_level_93 (by omega) (Nat.le_of_ble_eq_true rfl) ⟨by omega, by omega⟩ (fun h => by cases h) (fun r w2 nx2 hp => ?_)
                obtain ⟨rfl, rfl, rfl⟩ := hp
                refine aw_callV (pc := 96) X _ (c_Ep_combine (d := 1) (x := u.2) (o := gg y.1) (by omega) (by omega) s4y) q_Ep_combine k_759 k_761 k_19 (by omega) (wE_at _ _ _) (by rfl) d_Ep_level_96 (by omega) (Nat.le_of_ble_eq_true rfl) ⟨by omega, by omega⟩ (fun h => by cases h) (fun r w2 nx2 hp => ?_)
                obtain ⟨rfl, rfl, rfl⟩ := hp
                refine aw_lstore_n (pc := 99) X (lv' := [(3, _), (5, _), (0, _), (1, _), (2, _)]) d_Ep_level_99 (by decide) (by rfl) ?_
                refine aw_goto (pc := 100) X (tgt := 20) d_Ep_level_100 (by rfl) ?_
                -- stop 20 lv=3:l,5:n,0:r,1:n,2:n st=
                refine AW.lsub [0, 2, 3, 4] (by rfl) ?_
                exact ihL _ _ (by omega) hu3 hu2
      have e1 := wE_at G w x
      refine aw_iload_n (pc := 0) X d_Ep_level_0 (by rfl) ?_
      refine aw_iconstN (pc := 1) X 4 d_Ep_level_1 (by decide) ?_
      refine aw_icmp_leN (pc := 2) X (tgt := 11) d_Ep_level_2 (by rfl) (by omega) (by omega) (fun h2 => ?_) (fun h2 => ?_)
      -- br 2 lv=0:r,1:n,2:n st=
      · refine aw_aload_nR (pc := 11) X d_Ep_level_11 (by rfl) ?_
        refine aw_iload_n (pc := 12) X d_Ep_level_12 (by rfl) ?_
        refine aw_iconstN (pc := 13) X 1 d_Ep_level_13 (by decide) ?_
        refine aw_iaddN (pc := 14) X d_Ep_level_14 ?_
        refine aw_iload_n (pc := 15) X d_Ep_level_15 (by rfl) ?_
        -- invokevirtual 16 lv=0:r,1:n,2:n st=n,n,r
        refine aw_callV (pc := 16) X _ ((ih (s + 1) dp ((7 - dp) * 7 + (6 - (s + 1)) + 3) nx w _ _ _ h1 (by omega) (by omega) hdp hx hS hnx).1 (Nat.le_refl _)) q_Ep_level k_742 k_744 k_16 (by omega) e1 (by rfl) d_Ep_level_16 (by omega) (Nat.le_of_ble_eq_true rfl) ⟨by omega, by omega⟩ (fun h => by cases h) (fun r w2 nx2 hp => ?_)
        obtain ⟨rfl, rfl, rfl⟩ := hp
        refine aw_lstore_n (pc := 19) X (lv' := [(3, _), (0, _), (1, _), (2, _)]) d_Ep_level_19 (by decide) (by rfl) ?_
        -- stop 20 lv=3:l,0:r,1:n,2:n st=
        exact L f _ _ (Nat.le_refl _) hq hq2
      · omega
end
end
section
/-! Expression.reckon; Expander.placeOfFirst, define, undivert, chosen, makePart, index -/
def nbl (c : Nat) : Bool := !isBlk c
def hEp (G : aw_G) (w : Nat → va_E) : Prop := ∃ (x : ES) (S : List Nat), w 413 = aObj 9 [rf G 414, .int (nI x.1), .int (nI (bN x.2.1)), .int (nI (bN x.2.2))] ∧ hTx G w 414 400 S
theorem hEp.keep {G : aw_G} {w w' : Nat → va_E} {lo hi : Nat} (h : hEp G w) (hf : fr lo hi w w') (h1 : hi ≤ 413 ∨ 416 ≤ lo) : hEp G w' := by
  obtain ⟨x, S, h2, h3⟩ := h
  exact ⟨x, S, (hf _ (by omega)).trans h2, h3.keep hf (by omega)⟩
section
variable {G : aw_G} {nx d : Nat} {w : Nat → va_E}
/-- what the reckoning says: its error, its value -/
def rckS (S : List Nat) (v : Int64) (x : ES) : Nat := if x.2.1 = true ∨ x.1 < S.length then 6 else if x.2.2 = true then 5 else 0
theorem s_Ep_reckon {q l u v f : Nat} {gg : Nat → Nat} {s S : List Nat} {va : Int64} {x' : ES} (hnx : 418 ≤ nx) (hd : 58 ≤ d) (hq : q < nx) (hq2 : q < 413) (hl : l ≤ 400) (huv : u ≤ v) (hvl : v ≤ l) (hg : ∀ j, gg j < 65536) (h3 : w q = aCh G l gg) (he : hEp G w) (hs : hTx G w 416 601 s) (hS : S = (sl gg u (v - u)).filter nbl) (hev : ev S f 1 0 0 false (0, false, false) = some (va, x')) : AC G y_Ep_reckon b_Ep_reckon 7 (some .int) d false [rf G 413, rf G q, .int (nI u), .int (nI v), rf G 416] nx w 0 0 (fun r w' nx' => nx' = nx ∧ r = some (.int (nI (rckS S va x'))) ∧ hEp G w' ∧ hTx G w' 416 601 (if rckS S va x' = 0 then (s ++ dec va).take 601 else s) ∧ fr 413 418 w w') := by
  obtain ⟨x0, S0, e0, t0⟩ := he
  have t0o := t0.obj
  refine AC.ofW (by decide) (Nat.le_of_ble_eq_true rfl) ?_
  intro E P hP Y X
  have X : aw_X G "RescanDesk$Expression" b_Ep_reckon 7 (some .int) "reckon" _ _ _ _ _ E := X
  refine AW.eql (lv' := [(0, _), (1, _), (2, _), (3, _), (4, _)]) (by rfl) ?_
  have L : ∀ (k i : Nat) (w1 : Nat → va_E) (S1 : List Nat), i + k = v → w1 413 = aObj 9 [rf G 414, .int (nI x0.1), .int (nI (bN x0.2.1)), .int (nI (bN x0.2.2))] → hTx G w1 414 400 S1 → fr 414 416 w w1 → S1 ++ (sl gg i k).filter nbl = S → AW G E 7 nx 0 0 w1 10 [(5, .int (nI i)), (0, rf G 413), (1, rf G q), (2, .int (nI u)), (3, .int (nI v)), (4, rf G 416)] [] := by
    intro k
    induction k with
    | zero =>
      intro i w1 S1 hi e1 t1 hf hr
      rw [sl_0, List.filter_nil, List.append_nil] at hr
      subst hr
      have hs1 : hTx G w1 416 601 s := hs.keep hf (by omega)
      refine aw_iload (pc := 10) X d_Ep_reckon_10 (by rfl) ?_
      refine aw_iload_n (pc := 12) X d_Ep_reckon_12 (by rfl) ?_
      refine aw_icmp_geN (pc := 13) X (tgt := 44) d_Ep_reckon_13 (by rfl) (by omega) (by omega) (fun h13 => ?_) (fun h13 => ?_)
      -- br 13 lv=5:n,0:r,1:r,2:n,3:n,4:r st=
      · refine aw_aload_nR (pc := 44) X d_Ep_reckon_44 (by rfl) ?_
        refine aw_iconstN (pc := 45) X 0 d_Ep_reckon_45 (by decide) ?_
        refine aw_putO (pc := 46) X _ 1 (by omega) (by (repeat (first | rw [aw_up_eq] | rw [aw_up_ne _ _ (by first | assumption | omega)])) <;> first | assumption | rfl) (by rfl) in_Ep (by decide) ty_Ep ok_Ep nm_Ep k_342 (by rfl) (by rfl) (by rfl) (by simp) (fs' := [_, _, _, _]) (by rfl) d_Ep_reckon_46 ?_
        refine aw_aload_nR (pc := 49) X d_Ep_reckon_49 (by rfl) ?_
        refine aw_iconstN (pc := 50) X 0 d_Ep_reckon_50 (by decide) ?_
        refine aw_putO (pc := 51) X _ 2 (by omega) (by (repeat (first | rw [aw_up_eq] | rw [aw_up_ne _ _ (by first | assumption | omega)])) <;> first | assumption | rfl) (by rfl) in_Ep (by decide) ty_Ep ok_Ep nm_Ep k_343 (by rfl) (by decide +kernel) (by decide +kernel) (by simp) (fs' := [_, _, _, _]) (by rfl) d_Ep_reckon_51 ?_
        refine aw_aload_nR (pc := 54) X d_Ep_reckon_54 (by rfl) ?_
        refine aw_iconstN (pc := 55) X 0 d_Ep_reckon_55 (by decide) ?_
        refine aw_putO (pc := 56) X _ 3 (by omega) (by (repeat (first | rw [aw_up_eq] | rw [aw_up_ne _ _ (by first | assumption | omega)])) <;> first | assumption | rfl) (by rfl) in_Ep (by decide) ty_Ep ok_Ep nm_Ep k_344 (by rfl) (by decide +kernel) (by decide +kernel) (by simp) (fs' := [_, _, _, _]) (by rfl) d_Ep_reckon_56 ?_
        -- stop 59 lv=5:n,0:r,1:r,2:n,3:n,4:r st=
        refine AW.eqw (show _ = wE G w1 (0, false, false) by simp only [aw_up_up]; rfl) ?_
        refine aw_aload_nR (pc := 59) X d_Ep_reckon_59 (by rfl) ?_
        refine aw_iconstN (pc := 60) X 1 d_Ep_reckon_60 (by decide) ?_
        refine aw_iconstN (pc := 61) X 0 d_Ep_reckon_61 (by decide) ?_
        -- invokevirtual 62 lv=5:n,0:r,1:r,2:n,3:n,4:r st=n,n,r
        refine aw_callV (pc := 62) X _ ((ev_AC S1 f 1 0 57 nx w1 _ _ _ hev (by omega) (by omega) (by omega) (Nat.zero_le _) t1 (by omega)).1 (by omega)) q_Ep_level k_742 k_744 k_16 (by omega) (wE_at _ _ _) (by rfl) d_Ep_reckon_62 (by omega) (Nat.le_of_ble_eq_true rfl) ⟨by omega, by omega⟩ (fun h => by cases h) (fun r w2 nx2 hp => ?_)
        obtain ⟨rfl, rfl, rfl⟩ := hp
        have g1 := wE_at G w1 x'
        have g2 : wE G w1 x' 414 = oTx G 415 S1.length := (wE_ne G w1 _ (by omega)).trans t1.obj
        have g3 : hTx G (wE G w1 x') 416 601 s := hs1.kept (wE_ne G w1 _ (by omega)) (wE_ne G w1 _ (by omega))
        have g4 : hTx G (wE G w1 x') 414 400 S1 := t1.kept (wE_ne G w1 _ (by omega)) (wE_ne G w1 _ (by omega))
        have hb1 := bN_lt x'.2.1
        have hb2 := bN_lt x'.2.2
        have hx' := ev_le S1 _ _ _ _ _ _ _ _ hev (Nat.zero_le _)
        have hl1 := t1.le
        have fx : fr 413 418 w (wE G w1 x') := (hf.mono (by omega) (by omega)).up _ (by omega)
        refine aw_lstore (pc := 65) X (lv' := [(5, _), (0, _), (1, _), (2, _), (3, _), (4, _)]) d_Ep_reckon_65 (by decide) (by rfl) ?_
        refine aw_aload_nR (pc := 67) X d_Ep_reckon_67 (by rfl) ?_
        refine aw_getO (pc := 68) X _ 2 (by omega) (by (repeat (first | rw [aw_up_eq] | rw [aw_up_ne _ _ (by first | assumption | omega)])) <;> first | assumption | rfl) (by rfl) in_Ep (by decide) k_343 (by rfl) d_Ep_reckon_68 ?_
        refine aw_if_neN (pc := 71) X (tgt := 88) d_Ep_reckon_71 (by rfl) (by omega) (fun h71 => ?_) (fun h71 => ?_)
        -- br 71 lv=5:l,0:r,1:r,2:n,3:n,4:r st=
        · have z : rckS S1 va x' = 6 := by rw [rckS, if_pos (Or.inl (bN_ne.mp h71))]
          refine aw_bipushN (pc := 88) X 6 d_Ep_reckon_88 (by decide) ?_
          refine aw_iret Y X rfl d_Ep_reckon_90 (by omega) (by omega) (hP _ _ _ ?_)
          -- ret 90 lv=5:l,0:r,1:r,2:n,3:n,4:r st=n
          rw [z]
          exact ⟨rfl, rfl, ⟨x', S1, g1, g4⟩, g3, fx⟩
        · have z1 := bN_eq.mp h71
          refine aw_aload_nR (pc := 74) X d_Ep_reckon_74 (by rfl) ?_
          refine aw_getO (pc := 75) X _ 1 (by omega) (by (repeat (first | rw [aw_up_eq] | rw [aw_up_ne _ _ (by first | assumption | omega)])) <;> first | assumption | rfl) (by rfl) in_Ep (by decide) k_342 (by rfl) d_Ep_reckon_75 ?_
          refine aw_aload_nR (pc := 78) X d_Ep_reckon_78 (by rfl) ?_
          refine aw_getO (pc := 79) X _ 0 (by omega) (by (repeat (first | rw [aw_up_eq] | rw [aw_up_ne _ _ (by first | assumption | omega)])) <;> first | assumption | rfl) (by rfl) in_Ep (by decide) k_341 (by rfl) d_Ep_reckon_79 ?_
          refine aw_getNO (pc := 82) X _ 1 (by omega) (by (repeat (first | rw [aw_up_eq] | rw [aw_up_ne _ _ (by first | assumption | omega)])) <;> first | assumption | rfl) (by rfl) in_Tx (by decide) k_112 (by rfl) d_Ep_reckon_82 ?_
          refine aw_icmp_geN (pc := 85) X (tgt := 91) d_Ep_reckon_85 (by rfl) (by omega) (by omega) (fun h85 => ?_) (fun h85 => ?_)
          -- br 85 lv=5:l,0:r,1:r,2:n,3:n,4:r st=
          · refine aw_aload_nR (pc := 91) X d_Ep_reckon_91 (by rfl) ?_
            refine aw_getO (pc := 92) X _ 3 (by omega) (by (repeat (first | rw [aw_up_eq] | rw [aw_up_ne _ _ (by first | assumption | omega)])) <;> first | assumption | rfl) (by rfl) in_Ep (by decide) k_344 (by rfl) d_Ep_reckon_92 ?_
            refine aw_if_eqN (pc := 95) X (tgt := 100) d_Ep_reckon_95 (by rfl) (by omega) (fun h95 => ?_) (fun h95 => ?_)
            -- br 95 lv=5:l,0:r,1:r,2:n,3:n,4:r st=
            · have z : rckS S1 va x' = 0 := by rw [rckS, if_neg (by rw [z1]; simp; omega), if_neg (by rw [bN_eq.mp h95]; decide)]
              refine aw_aloadR (pc := 100) X d_Ep_reckon_100 (by rfl) ?_
              refine aw_lload (pc := 102) X d_Ep_reckon_102 (by rfl) ?_
              -- invokevirtual 104 lv=5:l,0:r,1:r,2:n,3:n,4:r st=l,r
              refine aw_callV (pc := 104) X _ (s_Tx_addNumber (d := 1) (a := 416) (m := 601) (v := va) (by omega) (by omega) (by omega) g3) q_Tx_addNumber k_770 k_636 k_637 (by omega) g3.obj (by rfl) d_Ep_reckon_104 (by omega) (Nat.le_of_ble_eq_true rfl) ⟨by omega, by omega⟩ (fun h => by cases h) (fun r w3 nx3 hp => ?_)
              obtain ⟨rfl, rfl, t4, f4⟩ := hp
              refine aw_iconstN (pc := 107) X 0 d_Ep_reckon_107 (by decide) ?_
              refine aw_iret Y X rfl d_Ep_reckon_108 (by omega) (by omega) (hP _ _ _ ?_)
              -- ret 108 lv=5:l,0:r,1:r,2:n,3:n,4:r st=n
              rw [z]
              exact ⟨rfl, rfl, ⟨x', S1, (f4 _ (by omega)).trans g1, g4.keep f4 (by omega)⟩, t4, fx.trans (f4.mono (by omega) (by omega))⟩
            · have z : rckS S1 va x' = 5 := by rw [rckS, if_neg (by rw [z1]; simp; omega), if_pos (bN_ne.mp h95)]
              refine aw_iconstN (pc := 98) X 5 d_Ep_reckon_98 (by decide) ?_
              refine aw_iret Y X rfl d_Ep_reckon_99 (by omega) (by omega) (hP _ _ _ ?_)
              -- ret 99 lv=5:l,0:r,1:r,2:n,3:n,4:r st=n
              rw [z]
              exact ⟨rfl, rfl, ⟨x', S1, g1, g4⟩, g3, fx⟩
          · have z : rckS S1 va x' = 6 := by rw [rckS, if_pos (Or.inr h85)]
            refine aw_bipushN (pc := 88) X 6 d_Ep_reckon_88 (by decide) ?_
            refine aw_iret Y X rfl d_Ep_reckon_90 (by omega) (by omega) (hP _ _ _ ?_)
            -- ret 90 lv=5:l,0:r,1:r,2:n,3:n,4:r st=n
            rw [z]
            exact ⟨rfl, rfl, ⟨x', S1, g1, g4⟩, g3, fx⟩
      · omega
    | succ k ih =>
      intro i w1 S1 hi e1 t1 hf hr
      rw [sl_cons] at hr
      have hgi := hg i
      have h31 : w1 q = aCh G l gg := (hf _ (by omega)).trans h3
      have t1o := t1.obj
      have hlen : S1.length + ((gg i :: sl gg (i + 1) k).filter nbl).length ≤ 400 := by
        have q1 := congrArg List.length hr
        rw [List.length_append, hS] at q1
        have q2 := List.length_filter_le nbl (sl gg u (v - u))
        rw [sl_len] at q2
        omega
      refine aw_iload (pc := 10) X d_Ep_reckon_10 (by rfl) ?_
      refine aw_iload_n (pc := 12) X d_Ep_reckon_12 (by rfl) ?_
      refine aw_icmp_geN (pc := 13) X (tgt := 44) d_Ep_reckon_13 (by rfl) (by omega) (by omega) (fun h13 => ?_) (fun h13 => ?_)
      -- br 13 lv=5:n,0:r,1:r,2:n,3:n,4:r st=
      · omega
      · refine aw_aload_nR (pc := 16) X d_Ep_reckon_16 (by rfl) ?_
        refine aw_iload (pc := 17) X d_Ep_reckon_17 (by rfl) ?_
        refine aw_caldN (pc := 19) X _ 0 (by omega) (by (repeat (first | rw [aw_up_eq] | rw [aw_up_ne _ _ (by first | assumption | omega)])) <;> first | assumption | rfl) (by rfl) (by omega) (by omega) d_Ep_reckon_19 ?_
        -- invokestatic 20 lv=5:n,0:r,1:r,2:n,3:n,4:r st=n
        refine aw_callSN (pc := 20) X (c_Rd_isBlank (d := 0) hgi) q_Rd_isBlank k_740 k_606 d_Ep_reckon_20 (by omega) (Nat.le_of_ble_eq_true rfl) ⟨by omega, by omega⟩ (fun h => by cases h) (fun r w2 nx2 hp => ?_)
        obtain ⟨rfl, rfl, rfl⟩ := hp
        have hb := bN_lt (isBlk (gg i))
        refine aw_if_neN (pc := 23) X (tgt := 38) d_Ep_reckon_23 (by rfl) (by omega) (fun h23 => ?_) (fun h23 => ?_)
        -- br 23 lv=5:n,0:r,1:r,2:n,3:n,4:r st=
        · rw [List.filter_cons_of_neg (by simp [nbl, bN_ne.mp h23])] at hr
          refine aw_iincN (pc := 38) X 1 (lv' := [(5, _), (0, _), (1, _), (2, _), (3, _), (4, _)]) d_Ep_reckon_38 (by rfl) (by decide) (by decide) (by rfl) ?_
          refine aw_goto (pc := 41) X (tgt := 10) d_Ep_reckon_41 (by rfl) ?_
          -- stop 10 lv=5:n,0:r,1:r,2:n,3:n,4:r st=
          exact ih (i + 1) _ _ (by omega) e1 t1 hf hr
        · rw [List.filter_cons_of_pos (by simp [nbl, bN_eq.mp h23])] at hr hlen
          refine aw_aload_nR (pc := 26) X d_Ep_reckon_26 (by rfl) ?_
          refine aw_getO (pc := 27) X _ 0 (by omega) (by (repeat (first | rw [aw_up_eq] | rw [aw_up_ne _ _ (by first | assumption | omega)])) <;> first | assumption | rfl) (by rfl) in_Ep (by decide) k_341 (by rfl) d_Ep_reckon_27 ?_
          refine aw_aload_nR (pc := 30) X d_Ep_reckon_30 (by rfl) ?_
          refine aw_iload (pc := 31) X d_Ep_reckon_31 (by rfl) ?_
          refine aw_caldN (pc := 33) X _ 0 (by omega) (by (repeat (first | rw [aw_up_eq] | rw [aw_up_ne _ _ (by first | assumption | omega)])) <;> first | assumption | rfl) (by rfl) (by omega) (by omega) d_Ep_reckon_33 ?_
          -- invokevirtual 34 lv=5:n,0:r,1:r,2:n,3:n,4:r st=n,r
          refine aw_callV (pc := 34) X _ (s_Tx_add (d := 0) (a := 414) (m := 400) (s := S1) (x := gg i) (by omega) (by omega) hgi t1) q_Tx_add k_741 k_248 k_249 (by omega) t1o (by rfl) d_Ep_reckon_34 (by omega) (Nat.le_of_ble_eq_true rfl) ⟨by omega, by omega⟩ (fun h => by cases h) (fun r w3 nx3 hp => ?_)
          obtain ⟨rfl, rfl, t4, f4⟩ := hp
          rw [List.take_of_length_le (by simp at hlen ⊢; omega)] at t4
          refine aw_pop (pc := 37) X d_Ep_reckon_37 (by rfl) ?_
          refine aw_iincN (pc := 38) X 1 (lv' := [(5, _), (0, _), (1, _), (2, _), (3, _), (4, _)]) d_Ep_reckon_38 (by rfl) (by decide) (by decide) (by rfl) ?_
          refine aw_goto (pc := 41) X (tgt := 10) d_Ep_reckon_41 (by rfl) ?_
          -- stop 10 lv=5:n,0:r,1:r,2:n,3:n,4:r st=
          exact ih (i + 1) _ _ (by omega) ((f4 _ (by omega)).trans e1) t4 (hf.trans f4) (by rw [List.append_assoc]; exact hr)
  refine aw_aload_nR (pc := 0) X d_Ep_reckon_0 (by rfl) ?_
  refine aw_getO (pc := 1) X _ 0 (by omega) (by (repeat (first | rw [aw_up_eq] | rw [aw_up_ne _ _ (by first | assumption | omega)])) <;> first | assumption | rfl) (by rfl) in_Ep (by decide) k_341 (by rfl) d_Ep_reckon_1 ?_
  -- invokevirtual 4 lv=0:r,1:r,2:n,3:n,4:r st=r
  refine aw_callV (pc := 4) X _ (s_Tx_empty (d := 0) (by omega) t0) q_Tx_empty k_739 k_196 k_197 (by omega) t0o (by rfl) d_Ep_reckon_4 (by omega) (Nat.le_of_ble_eq_true rfl) ⟨by omega, by omega⟩ (fun h => by cases h) (fun r w2 nx2 hp => ?_)
  obtain ⟨rfl, rfl, t1, f1⟩ := hp
  refine aw_iload_n (pc := 7) X d_Ep_reckon_7 (by rfl) ?_
  refine aw_istore (pc := 8) X (lv' := [(5, _), (0, _), (1, _), (2, _), (3, _), (4, _)]) d_Ep_reckon_8 (by decide) (by rfl) ?_
  -- stop 10 lv=5:n,0:r,1:r,2:n,3:n,4:r st=
  exact L (v - u) u w2 [] (by omega) ((f1 _ (by omega)).trans e0) t1 f1 hS.symm
theorem s_Ex_placeOfFirst {a : Nat} {t : Def} {ar : List (List Nat)} {T : List Def} (hnx : 418 ≤ nx) (hd : 2 ≤ d) (ha : 321 ≤ a ∧ a + 7 ≤ 412) (he : hEx w G) (hT : hTa G w T) (h : hRdy G w a t ar) : AC G y_Ex_placeOfFirst b_Ex_placeOfFirst 2 (some .int) d false [rf G 412, rf G a] nx w 0 0 (fun r w' nx' => nx' = nx ∧ w' = w ∧ r = some (.int (pV (tfind T (argOf ar 1))))) := by
  obtain ⟨st, gg, dp, bg, c1, c2, c3, c4, c5, c6⟩ := h
  have c11 := c1.1
  have c1' : w a = aObj 7 [rf G (a + 1), rf G 319, rf G (a + 6), .int (nI ar.length), .int (nI dp), .int (nI (bN bg))] := c11
  have he' : w 412 = aObj 8 [rf G 3, rf G 5, rf G 15, rf G 413, rf G 416] := he
  have hft := c2.ft 1
  have ha1 : sl gg (frm st ar.length 1) (too st ar.length 1 - frm st ar.length 1) = argOf ar 1 := c6 1
  have t15 : ∃ n, w 15 = aObj 4 [rf G 16, .int (nI n)] := by obtain ⟨fa, g, x⟩ := hT; exact ⟨_, x.2.1⟩
  obtain ⟨nT, t15⟩ := t15
  refine AC.ofW (by decide) (Nat.le_of_ble_eq_true rfl) ?_
  intro E P hP Y X
  have X : aw_X G "RescanDesk$Expander" b_Ex_placeOfFirst 2 (some .int) "placeOfFirst" _ _ _ _ _ E := X
  refine AW.eql (lv' := [(0, _), (1, _)]) (by rfl) ?_
  refine aw_aload_nR (pc := 0) X d_Ex_placeOfFirst_0 (by rfl) ?_
  refine aw_getO (pc := 1) X _ 2 (by omega) (by (repeat (first | rw [aw_up_eq] | rw [aw_up_ne _ _ (by first | assumption | omega)])) <;> first | assumption | rfl) (by rfl) in_Ex (by decide) k_358 (by rfl) d_Ex_placeOfFirst_1 ?_
  refine aw_aload_nR (pc := 4) X d_Ex_placeOfFirst_4 (by rfl) ?_
  refine aw_getNO (pc := 5) X _ 1 (by omega) (by (repeat (first | rw [aw_up_eq] | rw [aw_up_ne _ _ (by first | assumption | omega)])) <;> first | assumption | rfl) (by rfl) in_Ca (by decide) k_282 (by rfl) d_Ex_placeOfFirst_5 ?_
  refine aw_aload_nR (pc := 8) X d_Ex_placeOfFirst_8 (by rfl) ?_
  refine aw_iconstN (pc := 9) X 1 d_Ex_placeOfFirst_9 (by decide) ?_
  -- invokevirtual 10 lv=0:r,1:r st=n,r,r,r
  refine aw_callV (pc := 10) X _ (c_Ca_from (d := 0) (by omega) (by omega) c2 c1) q_Ca_from k_627 k_628 k_629 (by omega) c11 (by rfl) d_Ex_placeOfFirst_10 (by omega) (Nat.le_of_ble_eq_true rfl) ⟨by omega, by omega⟩ (fun h => by cases h) (fun r w2 nx2 hp => ?_)
  obtain ⟨rfl, rfl, rfl⟩ := hp
  refine aw_aload_nR (pc := 13) X d_Ex_placeOfFirst_13 (by rfl) ?_
  refine aw_iconstN (pc := 14) X 1 d_Ex_placeOfFirst_14 (by decide) ?_
  -- invokevirtual 15 lv=0:r,1:r st=n,r,n,r,r
  refine aw_callV (pc := 15) X _ (c_Ca_to (d := 0) (by omega) (by omega) c2 c1) q_Ca_to k_631 k_632 k_633 (by omega) c11 (by rfl) d_Ex_placeOfFirst_15 (by omega) (Nat.le_of_ble_eq_true rfl) ⟨by omega, by omega⟩ (fun h => by cases h) (fun r w2 nx2 hp => ?_)
  obtain ⟨rfl, rfl, rfl⟩ := hp
  refine aw_callV (pc := 18) X _ (s_Ta_topmost (d := 1) (q := 319) (l := 400) (by omega) (by omega) (by omega) (by omega) hft.1 hft.2 c4 hT c3) q_Ta_topmost k_677 k_416 k_417 (by omega) t15 (by rfl) d_Ex_placeOfFirst_18 (by omega) (Nat.le_of_ble_eq_true rfl) ⟨by omega, by omega⟩ (fun h => by cases h) (fun r w2 nx2 hp => ?_)
  obtain ⟨rfl, rfl, rfl⟩ := hp
  rw [ha1]
  refine aw_iret Y X rfl d_Ex_placeOfFirst_21 (by omega) (by omega) (hP _ _ _ ?_)
  -- ret 21 lv=0:r,1:r st=i
  exact ⟨rfl, rfl, rfl⟩
/-- which argument an ifelse gives -/
def chosen (ar : List (List Nat)) : Nat → Nat → Nat
  | 0, a => a + 2
  | k + 1, a => if argOf ar a = argOf ar (a + 1) then a + 2 else if ar.length + 1 < 5 + a then a + 3 else chosen ar k (a + 3)
theorem s_Ex_chosen {a : Nat} {t : Def} {ar : List (List Nat)} (hnx : 418 ≤ nx) (hd : 4 ≤ d) (ha : 321 ≤ a ∧ a + 7 ≤ 412) (h : hRdy G w a t ar) : AC G y_Ex_chosen b_Ex_chosen 3 (some .int) d false [rf G 412, rf G a] nx w 0 0 (fun r w' nx' => nx' = nx ∧ w' = w ∧ r = some (.int (nI (chosen ar 3 1)))) := by
  obtain ⟨st, gg, dp, bg, c1, c2, c3, c4, c5, c6⟩ := h
  have c11 := c1.1
  have c1' : w a = aObj 7 [rf G (a + 1), rf G 319, rf G (a + 6), .int (nI ar.length), .int (nI dp), .int (nI (bN bg))] := c11
  have c6' : ∀ i, argL gg st ar.length i = argOf ar i := c6
  have hn9 := c2.1
  refine AC.ofW (by decide) (Nat.le_of_ble_eq_true rfl) ?_
  intro E P hP Y X
  have X : aw_X G "RescanDesk$Expander" b_Ex_chosen 3 (some .int) "chosen" _ _ _ _ _ E := X
  refine AW.eql (lv' := [(0, _), (1, _)]) (by rfl) ?_
  have L : ∀ (k b : Nat), 1 ≤ b → b + 3 * k = 10 → chosen ar k b = chosen ar 3 1 → AW G E 3 nx 0 0 w 2 [(2, .int (nI b)), (0, rf G 412), (1, rf G a)] [] := by
    intro k
    induction k with
    | zero =>
      intro b hb1 hb hr
      refine aw_iload_n (pc := 2) X d_Ex_chosen_2 (by rfl) ?_
      refine aw_bipushN (pc := 3) X 9 d_Ex_chosen_3 (by decide) ?_
      refine aw_icmp_geN (pc := 5) X (tgt := 41) d_Ex_chosen_5 (by rfl) (by omega) (by omega) (fun h5 => ?_) (fun h5 => ?_)
      -- br 5 lv=2:n,0:r,1:r st=
      · refine aw_iload_n (pc := 41) X d_Ex_chosen_41 (by rfl) ?_
        refine aw_iconstN (pc := 42) X 2 d_Ex_chosen_42 (by decide) ?_
        refine aw_iaddN (pc := 43) X d_Ex_chosen_43 ?_
        refine aw_iret Y X rfl d_Ex_chosen_44 (by omega) (by omega) (hP _ _ _ ?_)
        -- ret 44 lv=2:n,0:r,1:r st=n
        exact ⟨rfl, rfl, by rw [← hr]; rfl⟩
      · omega
    | succ k ih =>
      intro b hb1 hb hr
      refine aw_iload_n (pc := 2) X d_Ex_chosen_2 (by rfl) ?_
      refine aw_bipushN (pc := 3) X 9 d_Ex_chosen_3 (by decide) ?_
      refine aw_icmp_geN (pc := 5) X (tgt := 41) d_Ex_chosen_5 (by rfl) (by omega) (by omega) (fun h5 => ?_) (fun h5 => ?_)
      -- br 5 lv=2:n,0:r,1:r st=
      · omega
      · refine aw_aload_nR (pc := 8) X d_Ex_chosen_8 (by rfl) ?_
        refine aw_iload_n (pc := 9) X d_Ex_chosen_9 (by rfl) ?_
        refine aw_iload_n (pc := 10) X d_Ex_chosen_10 (by rfl) ?_
        refine aw_iconstN (pc := 11) X 1 d_Ex_chosen_11 (by decide) ?_
        refine aw_iaddN (pc := 12) X d_Ex_chosen_12 ?_
        -- invokevirtual 13 lv=2:n,0:r,1:r st=n,n,r
        refine aw_callV (pc := 13) X _ (c_Ca_isSame (d := 3) (x := b) (y := b + 1) (by omega) (by omega) (by omega) (by omega) (by omega) c2 c1 c4 c3) q_Ca_isSame k_779 k_780 k_781 (by omega) c11 (by rfl) d_Ex_chosen_13 (by omega) (Nat.le_of_ble_eq_true rfl) ⟨by omega, by omega⟩ (fun h => by cases h) (fun r w2 nx2 hp => ?_)
        obtain ⟨rfl, rfl, rfl⟩ := hp
        rw [c6', c6']
        have hbl := bN_lt (decide (argOf ar b = argOf ar (b + 1)))
        rw [chosen] at hr
        refine aw_if_neN (pc := 16) X (tgt := 41) d_Ex_chosen_16 (by rfl) (by omega) (fun h16 => ?_) (fun h16 => ?_)
        -- br 16 lv=2:n,0:r,1:r st=
        · rw [if_pos (of_decide_eq_true (bN_ne.mp h16))] at hr
          refine aw_iload_n (pc := 41) X d_Ex_chosen_41 (by rfl) ?_
          refine aw_iconstN (pc := 42) X 2 d_Ex_chosen_42 (by decide) ?_
          refine aw_iaddN (pc := 43) X d_Ex_chosen_43 ?_
          refine aw_iret Y X rfl d_Ex_chosen_44 (by omega) (by omega) (hP _ _ _ ?_)
          -- ret 44 lv=2:n,0:r,1:r st=n
          exact ⟨rfl, rfl, by rw [← hr]⟩
        · rw [if_neg (of_decide_eq_false (bN_eq.mp h16))] at hr
          refine aw_aload_nR (pc := 19) X d_Ex_chosen_19 (by rfl) ?_
          refine aw_getNO (pc := 20) X _ 3 (by omega) (by (repeat (first | rw [aw_up_eq] | rw [aw_up_ne _ _ (by first | assumption | omega)])) <;> first | assumption | rfl) (by rfl) in_Ca (by decide) k_286 (by rfl) d_Ex_chosen_20 ?_
          refine aw_iload_n (pc := 23) X d_Ex_chosen_23 (by rfl) ?_
          -- stop 24 lv=2:n,0:r,1:r st=n,n
          refine aw_isub (pc := 24) X d_Ex_chosen_24 ?_
          refine aw_iconstN (pc := 25) X 1 d_Ex_chosen_25 (by decide) ?_
          refine aw_iadd (pc := 26) X d_Ex_chosen_26 ?_
          refine aw_iconstN (pc := 27) X 5 d_Ex_chosen_27 (by decide) ?_
          have hcmp : nI 5 ≤ nI ar.length - nI b + nI 1 ↔ ¬ ar.length + 1 < 5 + b := by
            have e1 : (nI ar.length - nI b + nI 1).toInt = (ar.length : Int) - b + 1 := by
              have q1 : (nI ar.length - nI b).toInt = (ar.length : Int) - b := pk_sub_toInt (by omega) (by omega)
              rw [Int32.toInt_add, q1, nI_toInt (by omega)]
              rw [Int.bmod_eq_of_le (by omega) (by omega)]
              omega
            rw [Int32.le_iff_toInt_le, e1, nI_toInt (by omega)]
            omega
          refine aw_icmp_ge (pc := 28) X (tgt := 35) d_Ex_chosen_28 (by rfl) (fun h28 => ?_) (fun h28 => ?_)
          · rw [if_neg (hcmp.mp h28)] at hr
            refine aw_iincN (pc := 35) X 3 (lv' := [(2, _), (0, _), (1, _)]) d_Ex_chosen_35 (by rfl) (by decide) (by decide) (by rfl) ?_
            refine aw_goto (pc := 38) X (tgt := 2) d_Ex_chosen_38 (by rfl) ?_
            -- stop 2 lv=2:n,0:r,1:r st=
            exact ih (b + 3) (by omega) (by omega) hr
          · rw [if_pos (Classical.not_not.mp (fun z => h28 (hcmp.mpr z)))] at hr
            refine aw_iload_n (pc := 31) X d_Ex_chosen_31 (by rfl) ?_
            refine aw_iconstN (pc := 32) X 3 d_Ex_chosen_32 (by decide) ?_
            refine aw_iaddN (pc := 33) X d_Ex_chosen_33 ?_
            refine aw_iret Y X rfl d_Ex_chosen_34 (by omega) (by omega) (hP _ _ _ ?_)
            -- ret 34 lv=2:n,0:r,1:r st=n
            exact ⟨rfl, rfl, by rw [← hr]⟩
  refine aw_iconstN (pc := 0) X 1 d_Ex_chosen_0 (by decide) ?_
  refine aw_istore_n (pc := 1) X (lv' := [(2, _), (0, _), (1, _)]) d_Ex_chosen_1 (by decide) (by rfl) ?_
  -- stop 2 lv=2:n,0:r,1:r st=
  exact L 3 1 (by omega) (by omega) rfl
end
end
section
/-! Expander.index, makePart, define, undivert -/
def idxS (ar : List (List Nat)) : Nat → Nat → Option Nat
  | 0, _ => none
  | k + 1, p => if p + (argOf ar 2).length ≤ (argOf ar 1).length then (if argOf ar 2 = ((argOf ar 1).drop p).take (argOf ar 2).length then some p else idxS ar k (p + 1)) else none
/-- a part of the first argument -/
def cutS (ar : List (List Nat)) : List Nat := if 0 ≤ valL (argOf ar 2) ∧ valL (argOf ar 2) < lN (argOf ar 1).length then ((argOf ar 1).drop (valL (argOf ar 2)).toInt.toNat).take (if ar.length < 3 then (argOf ar 1).length else (valL (argOf ar 3)).toInt.toNat) else []
def defB (T : List Def) (ar : List (List Nat)) (o : Option Nat) : Nat × List Def := match o with
  | some i => (0, T.set i (argOf ar 1, 0, argOf ar 2))
  | none => if 60 ≤ T.length then (2, T) else (0, T ++ [(argOf ar 1, 0, argOf ar 2)])
def defS (T : List Def) (ar : List (List Nat)) (top : Bool) : Nat × List Def :=
  if isNm (argOf ar 1) = false then (0, T) else if 12 < (argOf ar 1).length ∨ 100 < (argOf ar 2).length then (2, T)
  else defB T ar (if top = true then none else tfind T (argOf ar 1))
def undS (p : Option Nat) (R : Nat → List Nat) (ar : List (List Nat)) : Bool × (Nat → List Nat) :=
  if ar.length = 0 then pourAllS R p else if 1 ≤ valL (argOf ar 1) ∧ valL (argOf ar 1) < 4 then pourS R (valL (argOf ar 1)).toInt.toNat p else (true, R)
def e2 (b : Bool) : Nat := cond b 0 2
theorem tfd_name {T : List Def} {s : List Nat} : ∀ {i k : Nat}, tfd T s i = some k → (T[k]?).map (fun t => t.1) = some s
  | 0, k, h => by cases h
  | i + 1, k, h => by
    unfold tfd at h
    split at h
    · cases h; assumption
    · exact tfd_name h
section
variable {G : aw_G} {nx d : Nat} {w : Nat → va_E}
theorem s_Ex_index {a : Nat} {t : Def} {ar : List (List Nat)} (hnx : 418 ≤ nx) (hd : 3 ≤ d) (ha : 321 ≤ a ∧ a + 7 ≤ 412) (h : hRdy G w a t ar) : AC G y_Ex_index b_Ex_index 3 (some .int) d false [rf G 412, rf G a] nx w 0 0 (fun r w' nx' => nx' = nx ∧ w' = w ∧ r = some (.int (pV (idxS ar 402 0)))) := by
  obtain ⟨st, gg, dp, bg, c1, c2, c3, c4, c5, c6⟩ := h
  have c11 := c1.1
  have c6' : ∀ i, argL gg st ar.length i = argOf ar i := c6
  have hn9 := c2.1
  have f1 := c2.ft 1
  have f2 := c2.ft 2
  have l1 : too st ar.length 1 - frm st ar.length 1 = (argOf ar 1).length := by rw [← c6', argL_len]
  have l2 : too st ar.length 2 - frm st ar.length 2 = (argOf ar 2).length := by rw [← c6', argL_len]
  refine AC.ofW (by decide) (Nat.le_of_ble_eq_true rfl) ?_
  intro E P hP Y X
  have X : aw_X G "RescanDesk$Expander" b_Ex_index 3 (some .int) "index" _ _ _ _ _ E := X
  refine AW.eql (lv' := [(0, _), (1, _)]) (by rfl) ?_
  have L : ∀ (k p : Nat), p + k = 402 → p ≤ 401 → idxS ar k p = idxS ar 402 0 → AW G E 3 nx 0 0 w 2 [(2, .int (nI p)), (0, rf G 412), (1, rf G a)] [] := by
    intro k
    induction k with
    | zero =>
      intro p hp0 hp1 hr
      omega
    | succ k ih =>
      intro p hp0 hp1 hr
      have hcmp : nI (argOf ar 1).length - nI (argOf ar 2).length < nI p ↔ ¬ p + (argOf ar 2).length ≤ (argOf ar 1).length := by
        rw [Int32.lt_iff_toInt_lt, pk_sub_toInt (by omega) (by omega), nI_toInt (by omega)]
        omega
      refine aw_iload_n (pc := 2) X d_Ex_index_2 (by rfl) ?_
      refine aw_aload_nR (pc := 3) X d_Ex_index_3 (by rfl) ?_
      refine aw_iconstN (pc := 4) X 1 d_Ex_index_4 (by decide) ?_
      -- invokevirtual 5 lv=2:n,0:r,1:r st=n,r,n
      refine aw_callV (pc := 5) X _ (c_Ca_length (d := 1) (by omega) (by omega) (by omega) c2 c1) q_Ca_length k_667 k_668 k_669 (by omega) c11 (by rfl) d_Ex_index_5 (by omega) (Nat.le_of_ble_eq_true rfl) ⟨by omega, by omega⟩ (fun h => by cases h) (fun r w2 nx2 hp => ?_)
      obtain ⟨rfl, rfl, rfl⟩ := hp
      refine aw_aload_nR (pc := 8) X d_Ex_index_8 (by rfl) ?_
      refine aw_iconstN (pc := 9) X 2 d_Ex_index_9 (by decide) ?_
      -- invokevirtual 10 lv=2:n,0:r,1:r st=n,r,n,n
      refine aw_callV (pc := 10) X _ (c_Ca_length (d := 1) (by omega) (by omega) (by omega) c2 c1) q_Ca_length k_667 k_668 k_669 (by omega) c11 (by rfl) d_Ex_index_10 (by omega) (Nat.le_of_ble_eq_true rfl) ⟨by omega, by omega⟩ (fun h => by cases h) (fun r w2 nx2 hp => ?_)
      obtain ⟨rfl, rfl, rfl⟩ := hp
      rw [l1, l2]
      refine aw_isub (pc := 13) X d_Ex_index_13 ?_
      rw [idxS] at hr
      refine aw_icmp_gt (pc := 14) X (tgt := 35) d_Ex_index_14 (by rfl) (fun h14 => ?_) (fun h14 => ?_)
      · rw [if_neg (hcmp.mp h14)] at hr
        refine aw_iconst (pc := 35) X (v := -1) d_Ex_index_35 (by decide) ?_
        refine aw_iret Y X rfl d_Ex_index_36 (by omega) (by omega) (hP _ _ _ ?_)
        -- ret 36 lv=2:n,0:r,1:r st=i
        exact ⟨rfl, rfl, by rw [← hr]; rfl⟩
      · have hfit := Classical.not_not.mp (fun z => h14 (hcmp.mpr z))
        rw [if_pos hfit] at hr
        refine aw_aload_nR (pc := 17) X d_Ex_index_17 (by rfl) ?_
        refine aw_iconstN (pc := 18) X 2 d_Ex_index_18 (by decide) ?_
        refine aw_iconstN (pc := 19) X 1 d_Ex_index_19 (by decide) ?_
        refine aw_iload_n (pc := 20) X d_Ex_index_20 (by rfl) ?_
        -- invokevirtual 21 lv=2:n,0:r,1:r st=n,n,n,r
        refine aw_callV (pc := 21) X _ (c_Ca_stands (d := 2) (x := 2) (y := 1) (p := p) (by omega) (by omega) (by omega) (by omega) (by omega) (by omega) c2 c1 c4 c3) q_Ca_stands k_802 k_785 k_786 (by omega) c11 (by rfl) d_Ex_index_21 (by omega) (Nat.le_of_ble_eq_true rfl) ⟨by omega, by omega⟩ (fun h => by cases h) (fun r w2 nx2 hp => ?_)
        obtain ⟨rfl, rfl, rfl⟩ := hp
        have hbl := bN_lt (stnd gg st ar.length 2 1 p)
        have hst : stnd gg st ar.length 2 1 p = decide (argOf ar 2 = ((argOf ar 1).drop p).take (argOf ar 2).length) := by
          unfold stnd
          rw [c6', c6']
          by_cases z : argOf ar 2 = ((argOf ar 1).drop p).take (argOf ar 2).length
          · rw [decide_eq_true ⟨hfit, z⟩, decide_eq_true z]
          · rw [decide_eq_false (fun y => z y.2), decide_eq_false z]
        rw [hst] at hbl ⊢
        refine aw_if_eqN (pc := 24) X (tgt := 29) d_Ex_index_24 (by rfl) (by omega) (fun h24 => ?_) (fun h24 => ?_)
        -- br 24 lv=2:n,0:r,1:r st=
        · rw [if_neg (of_decide_eq_false (bN_eq.mp h24))] at hr
          refine aw_iincN (pc := 29) X 1 (lv' := [(2, _), (0, _), (1, _)]) d_Ex_index_29 (by rfl) (by decide) (by decide) (by rfl) ?_
          refine aw_goto (pc := 32) X (tgt := 2) d_Ex_index_32 (by rfl) ?_
          -- stop 2 lv=2:n,0:r,1:r st=
          exact ih (p + 1) (by omega) (by omega) hr
        · rw [if_pos (of_decide_eq_true (bN_ne.mp h24))] at hr
          refine aw_iload_n (pc := 27) X d_Ex_index_27 (by rfl) ?_
          refine aw_iret Y X rfl d_Ex_index_28 (by omega) (by omega) (hP _ _ _ ?_)
          -- ret 28 lv=2:n,0:r,1:r st=n
          exact ⟨rfl, rfl, by rw [← hr]; rfl⟩
  refine aw_iconstN (pc := 0) X 0 d_Ex_index_0 (by decide) ?_
  refine aw_istore_n (pc := 1) X (lv' := [(2, _), (0, _), (1, _)]) d_Ex_index_1 (by decide) (by rfl) ?_
  -- stop 2 lv=2:n,0:r,1:r st=
  exact L 402 0 (by omega) (by omega) rfl
theorem s_Ex_makePart {a : Nat} {t : Def} {ar : List (List Nat)} {s : List Nat} (hnx : 418 ≤ nx) (hd : 3 ≤ d) (ha : 321 ≤ a ∧ a + 7 ≤ 412) (he : hEx w G) (hs : hTx G w 416 601 s) (h : hRdy G w a t ar) : AC G y_Ex_makePart b_Ex_makePart 8 none d false [rf G 412, rf G a] nx w 0 0 (fun r w' nx' => nx' = nx ∧ r = none ∧ hTx G w' 416 601 ((s ++ cutS ar).take 601) ∧ fr 416 418 w w') := by
  obtain ⟨st, gg, dp, bg, c1, c2, c3, c4, c5, c6⟩ := h
  have c11 := c1.1
  have c1' : w a = aObj 7 [rf G (a + 1), rf G 319, rf G (a + 6), .int (nI ar.length), .int (nI dp), .int (nI (bN bg))] := c11
  have he' : w 412 = aObj 8 [rf G 3, rf G 5, rf G 15, rf G 413, rf G 416] := he
  have c6' : ∀ i, argL gg st ar.length i = argOf ar i := c6
  have hn9 := c2.1
  have f1 := c2.ft 1
  have l1 : too st ar.length 1 - frm st ar.length 1 = (argOf ar 1).length := by rw [← c6', argL_len]
  have hnil : (s ++ []).take 601 = s := by rw [List.append_nil, List.take_of_length_le hs.le]
  refine AC.ofW (by decide) (Nat.le_of_ble_eq_true rfl) ?_
  intro E P hP Y X
  have X : aw_X G "RescanDesk$Expander" b_Ex_makePart 8 none "makePart" _ _ _ _ _ E := X
  refine AW.eql (lv' := [(0, _), (1, _)]) (by rfl) ?_
  refine aw_aload_nR (pc := 0) X d_Ex_makePart_0 (by rfl) ?_
  refine aw_iconstN (pc := 1) X 2 d_Ex_makePart_1 (by decide) ?_
  -- invokevirtual 2 lv=0:r,1:r st=n,r
  refine aw_callV (pc := 2) X _ (c_Ca_value (d := 2) (i := 2) (by omega) (by omega) (by omega) (by omega) c2 c1 c4 c3) q_Ca_value k_699 k_700 k_701 (by omega) c11 (by rfl) d_Ex_makePart_2 (by omega) (Nat.le_of_ble_eq_true rfl) ⟨by omega, by omega⟩ (fun h => by cases h) (fun r w2 nx2 hp => ?_)
  obtain ⟨rfl, rfl, rfl⟩ := hp
  rw [c6']
  refine aw_lstore_n (pc := 5) X (lv' := [(2, _), (0, _), (1, _)]) d_Ex_makePart_5 (by decide) (by rfl) ?_
  refine aw_aload_nR (pc := 6) X d_Ex_makePart_6 (by rfl) ?_
  refine aw_iconstN (pc := 7) X 1 d_Ex_makePart_7 (by decide) ?_
  -- invokevirtual 8 lv=2:l,0:r,1:r st=n,r
  refine aw_callV (pc := 8) X _ (c_Ca_length (d := 1) (i := 1) (by omega) (by omega) (by omega) c2 c1) q_Ca_length k_667 k_668 k_669 (by omega) c11 (by rfl) d_Ex_makePart_8 (by omega) (Nat.le_of_ble_eq_true rfl) ⟨by omega, by omega⟩ (fun h => by cases h) (fun r w2 nx2 hp => ?_)
  obtain ⟨rfl, rfl, rfl⟩ := hp
  rw [l1]
  generalize hpl : valL (argOf ar 2) = pl
  refine aw_istore (pc := 11) X (lv' := [(4, _), (2, _), (0, _), (1, _)]) d_Ex_makePart_11 (by decide) (by rfl) ?_
  refine aw_lload_n (pc := 13) X d_Ex_makePart_13 (by rfl) ?_
  refine aw_lconst (pc := 14) X (v := 0) d_Ex_makePart_14 (by decide) ?_
  refine aw_lcmp (pc := 15) X d_Ex_makePart_15 ?_
  refine aw_if_lt (pc := 16) X (tgt := 27) d_Ex_makePart_16 (by rfl) (fun h16 => ?_) (fun h16 => ?_)
  -- br 16 lv=4:n,2:l,0:r,1:r st=
  · have z : ¬ 0 ≤ pl := Int64.not_le.mpr ((lg_lt0 _ _).mp h16)
    refine aw_vret Y X rfl d_Ex_makePart_27 (by omega) (by omega) (hP _ _ _ ?_)
    -- ret 27 lv=4:n,2:l,0:r,1:r st=
    rw [cutS, hpl, if_neg (fun y => z y.1), hnil]
    exact ⟨rfl, rfl, hs, fr.refl _ _ _⟩
  · have z : 0 ≤ pl := Int64.not_lt.mp (fun y => h16 ((lg_lt0 _ _).mpr y))
    refine aw_lload_n (pc := 19) X d_Ex_makePart_19 (by rfl) ?_
    refine aw_iload (pc := 20) X d_Ex_makePart_20 (by rfl) ?_
    refine aw_i2lN (pc := 22) X d_Ex_makePart_22 (by omega) ?_
    refine aw_lcmp (pc := 23) X d_Ex_makePart_23 ?_
    refine aw_if_lt (pc := 24) X (tgt := 28) d_Ex_makePart_24 (by rfl) (fun h24 => ?_) (fun h24 => ?_)
    -- br 24 lv=4:n,2:l,0:r,1:r st=
    · have z2 : pl < lN (argOf ar 1).length := (lg_lt0 _ _).mp h24
      have i1 : 0 ≤ pl.toInt := by simpa using Int64.le_iff_toInt_le.mp z
      have i2 : pl.toInt < (argOf ar 1).length := by have := Int64.lt_iff_toInt_lt.mp z2; rwa [pk_lT (by omega)] at this
      have e1 : pl = lN pl.toInt.toNat := Int64.toInt_inj.mp (by rw [lN_toInt (by omega)]; omega)
      have hc : cutS ar = ((argOf ar 1).drop pl.toInt.toNat).take (if ar.length < 3 then (argOf ar 1).length else (valL (argOf ar 3)).toInt.toNat) := by rw [cutS, hpl, if_pos ⟨z, z2⟩]
      generalize hk : pl.toInt.toNat = k at e1 hc
      have hk2 : k < (argOf ar 1).length := by omega
      subst e1
      have hnn : ¬ lN ((argOf ar 1).length - k) < 0 := fun y => by
        have q := Int64.lt_iff_toInt_lt.mp y
        rw [pk_lT (by omega)] at q
        have e0 : (0 : Int64).toInt = 0 := by decide
        omega
      have J : ∀ (m : Int64) (n : Nat), n ≤ (argOf ar 1).length - k → (if m < 0 then (0 : Int64) else m) = lN n → cutS ar = ((argOf ar 1).drop k).take n → AW G E 8 nx2 0 0 w2 55 [(5, .long m), (4, .int (nI (argOf ar 1).length)), (2, .long (lN k)), (0, rf G 412), (1, rf G a)] [] := by
        intro m n hn hm hcm
        refine aw_aload_nR (pc := 55) X d_Ex_makePart_55 (by rfl) ?_
        refine aw_iconstN (pc := 56) X 1 d_Ex_makePart_56 (by decide) ?_
        -- invokevirtual 57 lv=5:l,4:n,2:l,0:r,1:r st=n,r
        refine aw_callV (pc := 57) X _ (c_Ca_from (d := 0) (i := 1) (by omega) (by omega) c2 c1) q_Ca_from k_627 k_628 k_629 (by omega) c11 (by rfl) d_Ex_makePart_57 (by omega) (Nat.le_of_ble_eq_true rfl) ⟨by omega, by omega⟩ (fun h => by cases h) (fun r w2 nx2 hp => ?_)
        obtain ⟨rfl, rfl, rfl⟩ := hp
        refine aw_lload_n (pc := 60) X d_Ex_makePart_60 (by rfl) ?_
        refine aw_l2i (pc := 61) X d_Ex_makePart_61 ?_
        -- stop 62 lv=5:l,4:n,2:l,0:r,1:r st=i,n
        rw [lN_i]
        refine aw_iaddN (pc := 62) X d_Ex_makePart_62 ?_
        refine aw_istore (pc := 63) X (lv' := [(7, _), (5, _), (4, _), (2, _), (0, _), (1, _)]) d_Ex_makePart_63 (by decide) (by rfl) ?_
        refine aw_aload_nR (pc := 65) X d_Ex_makePart_65 (by rfl) ?_
        refine aw_getO (pc := 66) X _ 4 (by omega) (by (repeat (first | rw [aw_up_eq] | rw [aw_up_ne _ _ (by first | assumption | omega)])) <;> first | assumption | rfl) (by rfl) in_Ex (by decide) k_360 (by rfl) d_Ex_makePart_66 ?_
        refine aw_aload_nR (pc := 69) X d_Ex_makePart_69 (by rfl) ?_
        refine aw_getNO (pc := 70) X _ 1 (by omega) (by (repeat (first | rw [aw_up_eq] | rw [aw_up_ne _ _ (by first | assumption | omega)])) <;> first | assumption | rfl) (by rfl) in_Ca (by decide) k_282 (by rfl) d_Ex_makePart_70 ?_
        refine aw_iload (pc := 73) X d_Ex_makePart_73 (by rfl) ?_
        refine aw_iload (pc := 75) X d_Ex_makePart_75 (by rfl) ?_
        refine aw_lload (pc := 77) X d_Ex_makePart_77 (by rfl) ?_
        refine aw_lconst (pc := 79) X (v := 0) d_Ex_makePart_79 (by decide) ?_
        -- stop 80 lv=7:n,5:l,4:n,2:l,0:r,1:r st=l,l,n,n,r,r
        refine aw_mmaxL (pc := 80) X k_795 k_796 k_85 k_797 (by omega) (Nat.le_trans (m := 24) (Nat.le_of_ble_eq_true rfl) (by omega)) (by omega) (by omega) d_Ex_makePart_80 ?_
        have hmx : (if (0 : Int64) < m then m else 0) = lN n := by
          rw [← hm]
          by_cases y1 : m < 0
          · rw [if_pos y1, if_neg (fun y2 => Int64.lt_irrefl (Int64.lt_trans y1 y2))]
          · by_cases y2 : 0 < m
            · rw [if_pos y2, if_neg y1]
            · rw [if_neg y2, if_neg y1]
              exact Int64.le_antisymm (Int64.not_lt.mp y1) (Int64.not_lt.mp y2)
        rw [hmx]
        refine aw_l2i (pc := 83) X d_Ex_makePart_83 ?_
        rw [lN_i]
        refine aw_iaddN (pc := 84) X d_Ex_makePart_84 ?_
        -- invokevirtual 85 lv=7:n,5:l,4:n,2:l,0:r,1:r st=n,n,r,r
        refine aw_callV (pc := 85) X _ (s_Tx_addPart (d := 1) (a := 416) (m := 601) (q := 319) (l := 400) (f := gg) (u := frm st ar.length 1 + k) (v := frm st ar.length 1 + k + n) (by omega) (by omega) (by omega) (by omega) (by omega) (by omega) (by omega) c4 hs c3) q_Tx_addPart k_621 k_547 k_548 (by omega) hs.obj (by rfl) d_Ex_makePart_85 (by omega) (Nat.le_of_ble_eq_true rfl) ⟨by omega, by omega⟩ (fun h => by cases h) (fun r w3 nx3 hp => ?_)
        obtain ⟨rfl, rfl, h4, hf4⟩ := hp
        refine aw_pop (pc := 88) X d_Ex_makePart_88 (by rfl) ?_
        refine aw_vret Y X rfl d_Ex_makePart_89 (by omega) (by omega) (hP _ _ _ ?_)
        -- ret 89 lv=7:n,5:l,4:n,2:l,0:r,1:r st=
        refine ⟨rfl, rfl, ?_, hf4⟩
        have e5 : cutS ar = sl gg (frm st ar.length 1 + k) (frm st ar.length 1 + k + n - (frm st ar.length 1 + k)) := by
          rw [hcm, ← c6', argL, sl_drop _ _ _ _ (by omega), sl_take _ _ _ _ (by omega)]
          congr 1
          omega
        rw [e5]
        exact h4
      refine aw_iload (pc := 28) X d_Ex_makePart_28 (by rfl) ?_
      refine aw_i2lN (pc := 30) X d_Ex_makePart_30 (by omega) ?_
      refine aw_lload_n (pc := 31) X d_Ex_makePart_31 (by rfl) ?_
      -- stop 32 lv=4:n,2:l,0:r,1:r st=l,l
      refine aw_lsub (pc := 32) X d_Ex_makePart_32 ?_
      rw [lN_sub (by omega)]
      refine aw_lstore (pc := 33) X (lv' := [(5, _), (4, _), (2, _), (0, _), (1, _)]) d_Ex_makePart_33 (by decide) (by rfl) ?_
      refine aw_aload_nR (pc := 35) X d_Ex_makePart_35 (by rfl) ?_
      refine aw_getNO (pc := 36) X _ 3 (by omega) (by (repeat (first | rw [aw_up_eq] | rw [aw_up_ne _ _ (by first | assumption | omega)])) <;> first | assumption | rfl) (by rfl) in_Ca (by decide) k_286 (by rfl) d_Ex_makePart_36 ?_
      refine aw_iconstN (pc := 39) X 3 d_Ex_makePart_39 (by decide) ?_
      refine aw_icmp_ltN (pc := 40) X (tgt := 55) d_Ex_makePart_40 (by rfl) (by omega) (by omega) (fun h40 => ?_) (fun h40 => ?_)
      -- br 40 lv=5:l,4:n,2:l,0:r,1:r st=
      · refine J _ ((argOf ar 1).length - k) (Nat.le_refl _) ?_ ?_
        · rw [if_neg hnn]
        · rw [hc, if_pos h40, List.take_of_length_le (by simp), List.take_of_length_le (by simp)]
      · refine aw_lload (pc := 43) X d_Ex_makePart_43 (by rfl) ?_
        refine aw_aload_nR (pc := 45) X d_Ex_makePart_45 (by rfl) ?_
        refine aw_iconstN (pc := 46) X 3 d_Ex_makePart_46 (by decide) ?_
        -- invokevirtual 47 lv=5:l,4:n,2:l,0:r,1:r st=n,r,l
        refine aw_callV (pc := 47) X _ (c_Ca_value (d := 2) (i := 3) (by omega) (by omega) (by omega) (by omega) c2 c1 c4 c3) q_Ca_value k_699 k_700 k_701 (by omega) c11 (by rfl) d_Ex_makePart_47 (by omega) (Nat.le_of_ble_eq_true rfl) ⟨by omega, by omega⟩ (fun h => by cases h) (fun r w2 nx2 hp => ?_)
        obtain ⟨rfl, rfl, rfl⟩ := hp
        rw [c6']
        generalize hv3 : valL (argOf ar 3) = v3
        rw [hv3, if_neg (by omega)] at hc
        refine aw_mminL (pc := 50) X k_792 k_793 k_85 k_794 (by omega) (Nat.le_trans (m := 24) (Nat.le_of_ble_eq_true rfl) (by omega)) (by omega) (by omega) d_Ex_makePart_50 ?_
        refine aw_lstore (pc := 53) X (lv' := [(5, _), (4, _), (2, _), (0, _), (1, _)]) d_Ex_makePart_53 (by decide) (by rfl) ?_
        -- stop 55 lv=5:l,4:n,2:l,0:r,1:r st=
        refine AW.lsub [0, 1, 2, 3, 4] (by rfl) ?_
        by_cases y1 : v3 < lN ((argOf ar 1).length - k)
        · rw [if_pos y1]
          have j1 : v3.toInt < (((argOf ar 1).length - k : Nat) : Int) := by have := Int64.lt_iff_toInt_lt.mp y1; rwa [pk_lT (by omega)] at this
          refine J _ v3.toInt.toNat (by omega) ?_ hc
          by_cases y2 : v3 < 0
          · have j2 : v3.toInt < 0 := by simpa using Int64.lt_iff_toInt_lt.mp y2
            rw [if_pos y2, show v3.toInt.toNat = 0 by omega]
            decide
          · have j2 : 0 ≤ v3.toInt := by simpa using Int64.le_iff_toInt_le.mp (Int64.not_lt.mp y2)
            rw [if_neg y2]
            exact Int64.toInt_inj.mp (by rw [lN_toInt (by omega)]; omega)
        · rw [if_neg y1]
          have j1 : (((argOf ar 1).length - k : Nat) : Int) ≤ v3.toInt := by have := Int64.le_iff_toInt_le.mp (Int64.not_lt.mp y1); rwa [pk_lT (by omega)] at this
          refine J _ ((argOf ar 1).length - k) (Nat.le_refl _) ?_ ?_
          · rw [if_neg hnn]
          · rw [hc, List.take_of_length_le (by rw [List.length_drop]; omega), List.take_of_length_le (by simp)]
    · have z2 : ¬ pl < lN (argOf ar 1).length := fun y => h24 ((lg_lt0 _ _).mpr y)
      refine aw_vret Y X rfl d_Ex_makePart_27 (by omega) (by omega) (hP _ _ _ ?_)
      -- ret 27 lv=4:n,2:l,0:r,1:r st=
      rw [cutS, hpl, if_neg (fun y => z2 y.2), hnil]
      exact ⟨rfl, rfl, hs, fr.refl _ _ _⟩
theorem s_Ex_undivert {a : Nat} {t : Def} {ar : List (List Nat)} {p : Option Nat} {R : Nat → List Nat} (hnx : 418 ≤ nx) (hd : 4 ≤ d) (ha : 321 ≤ a ∧ a + 7 ≤ 412) (he : hEx w G) (hR : hRo G w p R) (h : hRdy G w a t ar) : AC G y_Ex_undivert b_Ex_undivert 4 (some .int) d false [rf G 412, rf G a] nx w 0 0 (fun r w' nx' => nx' = nx ∧ r = some (.int (nI (e2 (undS p R ar).1))) ∧ hRo G w' p (undS p R ar).2 ∧ fr 5 15 w w') := by
  obtain ⟨st, gg, dp, bg, c1, c2, c3, c4, c5, c6⟩ := h
  have c11 := c1.1
  have c1' : w a = aObj 7 [rf G (a + 1), rf G 319, rf G (a + 6), .int (nI ar.length), .int (nI dp), .int (nI (bN bg))] := c11
  have he' : w 412 = aObj 8 [rf G 3, rf G 5, rf G 15, rf G 413, rf G 416] := he
  have c6' : ∀ i, argL gg st ar.length i = argOf ar i := c6
  have hn9 := c2.1
  have r5 := hR.1
  refine AC.ofW (by decide) (Nat.le_of_ble_eq_true rfl) ?_
  intro E P hP Y X
  have X : aw_X G "RescanDesk$Expander" b_Ex_undivert 4 (some .int) "undivert" _ _ _ _ _ E := X
  refine AW.eql (lv' := [(0, _), (1, _)]) (by rfl) ?_
  refine aw_aload_nR (pc := 0) X d_Ex_undivert_0 (by rfl) ?_
  refine aw_getNO (pc := 1) X _ 3 (by omega) (by (repeat (first | rw [aw_up_eq] | rw [aw_up_ne _ _ (by first | assumption | omega)])) <;> first | assumption | rfl) (by rfl) in_Ca (by decide) k_286 (by rfl) d_Ex_undivert_1 ?_
  refine aw_if_neN (pc := 4) X (tgt := 30) d_Ex_undivert_4 (by rfl) (by omega) (fun h4 => ?_) (fun h4 => ?_)
  -- br 4 lv=0:r,1:r st=
  · refine aw_aload_nR (pc := 30) X d_Ex_undivert_30 (by rfl) ?_
    refine aw_iconstN (pc := 31) X 1 d_Ex_undivert_31 (by decide) ?_
    -- invokevirtual 32 lv=0:r,1:r st=n,r
    refine aw_callV (pc := 32) X _ (c_Ca_value (d := 2) (i := 1) (by omega) (by omega) (by omega) (by omega) c2 c1 c4 c3) q_Ca_value k_699 k_700 k_701 (by omega) c11 (by rfl) d_Ex_undivert_32 (by omega) (Nat.le_of_ble_eq_true rfl) ⟨by omega, by omega⟩ (fun h => by cases h) (fun r w2 nx2 hp => ?_)
    obtain ⟨rfl, rfl, rfl⟩ := hp
    rw [c6']
    generalize hv : valL (argOf ar 1) = v
    refine aw_lstore_n (pc := 35) X (lv' := [(2, _), (0, _), (1, _)]) d_Ex_undivert_35 (by decide) (by rfl) ?_
    refine aw_lload_n (pc := 36) X d_Ex_undivert_36 (by rfl) ?_
    refine aw_lconst (pc := 37) X (v := 1) d_Ex_undivert_37 (by decide) ?_
    refine aw_lcmp (pc := 38) X d_Ex_undivert_38 ?_
    refine aw_if_lt (pc := 39) X (tgt := 50) d_Ex_undivert_39 (by rfl) (fun h39 => ?_) (fun h39 => ?_)
    -- br 39 lv=2:l,0:r,1:r st=
    · have z : ¬ 1 ≤ v := Int64.not_le.mpr ((lg_lt0 _ _).mp h39)
      have e : undS p R ar = (true, R) := by rw [undS, if_neg h4, hv, if_neg (fun y => z y.1)]
      refine aw_iconstN (pc := 50) X 0 d_Ex_undivert_50 (by decide) ?_
      refine aw_iret Y X rfl d_Ex_undivert_51 (by omega) (by omega) (hP _ _ _ ?_)
      -- ret 51 lv=2:l,0:r,1:r st=n
      rw [e]
      exact ⟨rfl, rfl, hR, fr.refl _ _ _⟩
    · have z : 1 ≤ v := Int64.not_lt.mp (fun y => h39 ((lg_lt0 _ _).mpr y))
      refine aw_lload_n (pc := 42) X d_Ex_undivert_42 (by rfl) ?_
      refine aw_ldc2 (pc := 43) X k_729 d_Ex_undivert_43 ?_
      refine aw_lcmp (pc := 46) X d_Ex_undivert_46 ?_
      refine aw_if_lt (pc := 47) X (tgt := 52) d_Ex_undivert_47 (by rfl) (fun h47 => ?_) (fun h47 => ?_)
      -- br 47 lv=2:l,0:r,1:r st=
      · have z2 : v < 4 := (lg_lt0 _ _).mp h47
        have e : undS p R ar = pourS R v.toInt.toNat p := by rw [undS, if_neg h4, hv, if_pos ⟨z, z2⟩]
        have i1 : 1 ≤ v.toInt := by simpa using Int64.le_iff_toInt_le.mp z
        have i2 : v.toInt < 4 := by simpa using Int64.lt_iff_toInt_lt.mp z2
        have e1 : v.toInt32 = nI v.toInt.toNat := by
          have q : v = lN v.toInt.toNat := Int64.toInt_inj.mp (by rw [lN_toInt (by omega)]; omega)
          conv => lhs; rw [q]
          exact lN_i _
        refine aw_aload_nR (pc := 52) X d_Ex_undivert_52 (by rfl) ?_
        refine aw_getO (pc := 53) X _ 1 (by omega) (by (repeat (first | rw [aw_up_eq] | rw [aw_up_ne _ _ (by first | assumption | omega)])) <;> first | assumption | rfl) (by rfl) in_Ex (by decide) k_357 (by rfl) d_Ex_undivert_53 ?_
        refine aw_lload_n (pc := 56) X d_Ex_undivert_56 (by rfl) ?_
        refine aw_l2i (pc := 57) X d_Ex_undivert_57 ?_
        -- stop 58 lv=2:l,0:r,1:r st=i,r
        rw [e1]
        refine aw_aload_nR (pc := 58) X d_Ex_undivert_58 (by rfl) ?_
        refine aw_getO (pc := 59) X _ 1 (by omega) (by (repeat (first | rw [aw_up_eq] | rw [aw_up_ne _ _ (by first | assumption | omega)])) <;> first | assumption | rfl) (by rfl) in_Ex (by decide) k_357 (by rfl) d_Ex_undivert_59 ?_
        refine aw_getNO (pc := 62) X _ 1 (by omega) (by (repeat (first | rw [aw_up_eq] | rw [aw_up_ne _ _ (by first | assumption | omega)])) <;> first | assumption | rfl) (by rfl) in_Ro (by decide) k_154 (by rfl) d_Ex_undivert_62 ?_
        -- invokevirtual 65 lv=2:l,0:r,1:r st=i,n,r
        refine aw_callV (pc := 65) X _ (s_Ro_pour (d := 2) (p := p) (R := R) (t := p) (by omega) (by omega) (by omega) hR.2.2.2 hR) q_Ro_pour k_730 k_721 k_722 (by omega) r5 (by rfl) d_Ex_undivert_65 (by omega) (Nat.le_of_ble_eq_true rfl) ⟨by omega, by omega⟩ (fun h => by cases h) (fun r w2 nx2 hp => ?_)
        obtain ⟨rfl, rfl, h2, hf2⟩ := hp
        have hbl := bN_lt (pourS R v.toInt.toNat p).1
        refine aw_if_eqN (pc := 68) X (tgt := 75) d_Ex_undivert_68 (by rfl) (by omega) (fun h68 => ?_) (fun h68 => ?_)
        -- br 68 lv=2:l,0:r,1:r st=
        · have q := bN_eq.mp h68
          refine aw_iconstN (pc := 75) X 2 d_Ex_undivert_75 (by decide) ?_
          refine aw_iret Y X rfl d_Ex_undivert_76 (by omega) (by omega) (hP _ _ _ ?_)
          -- ret 76 lv=2:l,0:r,1:r st=n
          exact ⟨rfl, by rw [e, q]; rfl, by rw [e]; exact h2, hf2⟩
        · have q := bN_ne.mp h68
          refine aw_iconstN (pc := 71) X 0 d_Ex_undivert_71 (by decide) ?_
          refine aw_goto (pc := 72) X (tgt := 76) d_Ex_undivert_72 (by rfl) ?_
          refine aw_iret Y X rfl d_Ex_undivert_76 (by omega) (by omega) (hP _ _ _ ?_)
          -- ret 76 lv=2:l,0:r,1:r st=n
          exact ⟨rfl, by rw [e, q]; rfl, by rw [e]; exact h2, hf2⟩
      · have z2 : ¬ v < 4 := fun y => h47 ((lg_lt0 _ _).mpr y)
        have e : undS p R ar = (true, R) := by rw [undS, if_neg h4, hv, if_neg (fun y => z2 y.2)]
        refine aw_iconstN (pc := 50) X 0 d_Ex_undivert_50 (by decide) ?_
        refine aw_iret Y X rfl d_Ex_undivert_51 (by omega) (by omega) (hP _ _ _ ?_)
        -- ret 51 lv=2:l,0:r,1:r st=n
        rw [e]
        exact ⟨rfl, rfl, hR, fr.refl _ _ _⟩
  · have e : undS p R ar = pourAllS R p := by rw [undS, if_pos h4]
    refine aw_aload_nR (pc := 7) X d_Ex_undivert_7 (by rfl) ?_
    refine aw_getO (pc := 8) X _ 1 (by omega) (by (repeat (first | rw [aw_up_eq] | rw [aw_up_ne _ _ (by first | assumption | omega)])) <;> first | assumption | rfl) (by rfl) in_Ex (by decide) k_357 (by rfl) d_Ex_undivert_8 ?_
    refine aw_aload_nR (pc := 11) X d_Ex_undivert_11 (by rfl) ?_
    refine aw_getO (pc := 12) X _ 1 (by omega) (by (repeat (first | rw [aw_up_eq] | rw [aw_up_ne _ _ (by first | assumption | omega)])) <;> first | assumption | rfl) (by rfl) in_Ex (by decide) k_357 (by rfl) d_Ex_undivert_12 ?_
    refine aw_getNO (pc := 15) X _ 1 (by omega) (by (repeat (first | rw [aw_up_eq] | rw [aw_up_ne _ _ (by first | assumption | omega)])) <;> first | assumption | rfl) (by rfl) in_Ro (by decide) k_154 (by rfl) d_Ex_undivert_15 ?_
    -- invokevirtual 18 lv=0:r,1:r st=i,r
    refine aw_callV (pc := 18) X _ (s_Ro_pourAll (d := 3) (p := p) (R := R) (t := p) (by omega) (by omega) hR.2.2.2 hR) q_Ro_pourAll k_716 k_717 k_718 (by omega) r5 (by rfl) d_Ex_undivert_18 (by omega) (Nat.le_of_ble_eq_true rfl) ⟨by omega, by omega⟩ (fun h => by cases h) (fun r w2 nx2 hp => ?_)
    obtain ⟨rfl, rfl, h2, hf2⟩ := hp
    have hbl := bN_lt (pourAllS R p).1
    refine aw_if_eqN (pc := 21) X (tgt := 28) d_Ex_undivert_21 (by rfl) (by omega) (fun h21 => ?_) (fun h21 => ?_)
    -- br 21 lv=0:r,1:r st=
    · have q := bN_eq.mp h21
      refine aw_iconstN (pc := 28) X 2 d_Ex_undivert_28 (by decide) ?_
      refine aw_iret Y X rfl d_Ex_undivert_29 (by omega) (by omega) (hP _ _ _ ?_)
      -- ret 29 lv=0:r,1:r st=n
      exact ⟨rfl, by rw [e, q]; rfl, by rw [e]; exact h2, hf2⟩
    · have q := bN_ne.mp h21
      refine aw_iconstN (pc := 24) X 0 d_Ex_undivert_24 (by decide) ?_
      refine aw_goto (pc := 25) X (tgt := 29) d_Ex_undivert_25 (by rfl) ?_
      refine aw_iret Y X rfl d_Ex_undivert_29 (by omega) (by omega) (hP _ _ _ ?_)
      -- ret 29 lv=0:r,1:r st=n
      exact ⟨rfl, by rw [e, q]; rfl, by rw [e]; exact h2, hf2⟩
theorem s_Ex_define {a : Nat} {t : Def} {ar : List (List Nat)} {T : List Def} {top : Bool} (hnx : 418 ≤ nx) (hd : 4 ≤ d) (ha : 321 ≤ a ∧ a + 7 ≤ 412) (he : hEx w G) (hT : hTa G w T) (h : hRdy G w a t ar) : AC G y_Ex_define b_Ex_define 5 (some .int) d false [rf G 412, rf G a, .int (nI (bN top))] nx w 0 0 (fun r w' nx' => nx' = nx ∧ r = some (.int (nI (defS T ar top).1)) ∧ hTa G w' (defS T ar top).2 ∧ fr 15 317 w w') := by
  have h0 := h
  obtain ⟨st, gg, dp, bg, c1, c2, c3, c4, c5, c6⟩ := h
  have c11 := c1.1
  have c1' : w a = aObj 7 [rf G (a + 1), rf G 319, rf G (a + 6), .int (nI ar.length), .int (nI dp), .int (nI (bN bg))] := c11
  have he' : w 412 = aObj 8 [rf G 3, rf G 5, rf G 15, rf G 413, rf G 416] := he
  have c6' : ∀ i, argL gg st ar.length i = argOf ar i := c6
  have hn9 := c2.1
  have f1 := c2.ft 1
  have f2 := c2.ft 2
  have l1 : too st ar.length 1 - frm st ar.length 1 = (argOf ar 1).length := by rw [← c6', argL_len]
  have l2 : too st ar.length 2 - frm st ar.length 2 = (argOf ar 2).length := by rw [← c6', argL_len]
  have a1 : sl gg (frm st ar.length 1) (too st ar.length 1 - frm st ar.length 1) = argOf ar 1 := c6 1
  have a2 : sl gg (frm st ar.length 2) (too st ar.length 2 - frm st ar.length 2) = argOf ar 2 := c6 2
  obtain ⟨fa, g, hTP⟩ := id hT
  obtain ⟨b1, b2, b3, b4, b5, b6⟩ := id hTP
  have hbt := bN_lt top
  refine AC.ofW (by decide) (Nat.le_of_ble_eq_true rfl) ?_
  intro E P hP Y X
  have X : aw_X G "RescanDesk$Expander" b_Ex_define 5 (some .int) "define" _ _ _ _ _ E := X
  refine AW.eql (lv' := [(0, _), (1, _), (2, _)]) (by rfl) ?_
  -- the body is set, in a table that has the definition at place i
  have B : ∀ (w1 : Nat → va_E) (T1 : List Def) (i : Nat) (t1 : Def) (lv : List (Nat × Value)) (pl : Value), hTaP G w1 T1 fa g → fr 15 317 w w1 → T1[i]? = some t1 → (0, T1.set i (t1.1, 0, argOf ar 2)) = defS T ar top → (argOf ar 2).length ≤ 100 → AW G E 5 nx 0 0 w1 105 [(4, rf G (17 + 5 * g i)), (3, pl), (0, rf G 412), (1, rf G a), (2, .int (nI (bN top)))] [] := by
    intro w1 T1 i t1 lv pl q1 q2 q3 q4 q5
    have hi : i < T1.length := (List.getElem?_eq_some_iff.mp q3).1
    have gi := (q1.2.2.2.1 i (by have := q1.1; omega)).2
    have r1 := h0.keep ha (q2.mono (Nat.le_refl 15) (Nat.le_refl 317)) (by omega)
    have c1w : hCa G w1 a t st ar.length dp bg := c1.keep q2 (by omega)
    have c11w := c1w.1
    have c1w' : w1 a = aObj 7 [rf G (a + 1), rf G 319, rf G (a + 6), .int (nI ar.length), .int (nI dp), .int (nI (bN bg))] := c11w
    have c3w : w1 319 = aCh G 400 gg := (q2 _ (by omega)).trans c3
    have hde := q1.at q3
    refine aw_aloadR (pc := 105) X d_Ex_define_105 (by rfl) ?_
    refine aw_aload_nR (pc := 107) X d_Ex_define_107 (by rfl) ?_
    refine aw_getNO (pc := 108) X _ 1 (by omega) (by (repeat (first | rw [aw_up_eq] | rw [aw_up_ne _ _ (by first | assumption | omega)])) <;> first | assumption | rfl) (by rfl) in_Ca (by decide) k_282 (by rfl) d_Ex_define_108 ?_
    refine aw_aload_nR (pc := 111) X d_Ex_define_111 (by rfl) ?_
    refine aw_iconstN (pc := 112) X 2 d_Ex_define_112 (by decide) ?_
    -- invokevirtual 113 lv=4:r,3:v,0:r,1:r,2:n st=n,r,r,r
    refine aw_callV (pc := 113) X _ (c_Ca_from (d := 0) (i := 2) (by omega) (by omega) c2 c1w) q_Ca_from k_627 k_628 k_629 (by omega) c11w (by rfl) d_Ex_define_113 (by omega) (Nat.le_of_ble_eq_true rfl) ⟨by omega, by omega⟩ (fun h => by cases h) (fun r w2 nx2 hp => ?_)
    obtain ⟨rfl, rfl, rfl⟩ := hp
    refine aw_aload_nR (pc := 116) X d_Ex_define_116 (by rfl) ?_
    refine aw_iconstN (pc := 117) X 2 d_Ex_define_117 (by decide) ?_
    -- invokevirtual 118 lv=4:r,3:v,0:r,1:r,2:n st=n,r,n,r,r
    refine aw_callV (pc := 118) X _ (c_Ca_to (d := 0) (i := 2) (by omega) (by omega) c2 c1w) q_Ca_to k_631 k_632 k_633 (by omega) c11w (by rfl) d_Ex_define_118 (by omega) (Nat.le_of_ble_eq_true rfl) ⟨by omega, by omega⟩ (fun h => by cases h) (fun r w2 nx2 hp => ?_)
    obtain ⟨rfl, rfl, rfl⟩ := hp
    refine aw_callV (pc := 121) X _ (s_De_setBody (d := 3) (a := 17 + 5 * g i) (q := 319) (l := 400) (f := gg) (t := t1) (by omega) (by omega) (by omega) (by omega) (by omega) f2.1 f2.2 c4 hde c3w) q_De_setBody k_683 k_684 k_685 (by omega) hde.1 (by rfl) d_Ex_define_121 (by omega) (Nat.le_of_ble_eq_true rfl) ⟨by omega, by omega⟩ (fun h => by cases h) (fun r w3 nx3 hp => ?_)
    obtain ⟨rfl, rfl, h4, hf4⟩ := hp
    rw [a2, List.take_of_length_le q5] at h4
    refine aw_iconstN (pc := 124) X 0 d_Ex_define_124 (by decide) ?_
    refine aw_iret Y X rfl d_Ex_define_125 (by omega) (by omega) (hP _ _ _ ?_)
    -- ret 125 lv=4:r,3:v,0:r,1:r,2:n st=n
    rw [← q4]
    exact ⟨rfl, rfl, ⟨fa, g, q1.set hi h4 (Nat.zero_le _) hf4⟩, q2.trans (hf4.mono (by omega) (by omega))⟩
  refine aw_aload_nR (pc := 0) X d_Ex_define_0 (by rfl) ?_
  refine aw_getNO (pc := 1) X _ 1 (by omega) (by (repeat (first | rw [aw_up_eq] | rw [aw_up_ne _ _ (by first | assumption | omega)])) <;> first | assumption | rfl) (by rfl) in_Ca (by decide) k_282 (by rfl) d_Ex_define_1 ?_
  refine aw_aload_nR (pc := 4) X d_Ex_define_4 (by rfl) ?_
  refine aw_iconstN (pc := 5) X 1 d_Ex_define_5 (by decide) ?_
  -- invokevirtual 6 lv=0:r,1:r,2:n st=n,r,r
  refine aw_callV (pc := 6) X _ (c_Ca_from (d := 0) (i := 1) (by omega) (by omega) c2 c1) q_Ca_from k_627 k_628 k_629 (by omega) c11 (by rfl) d_Ex_define_6 (by omega) (Nat.le_of_ble_eq_true rfl) ⟨by omega, by omega⟩ (fun h => by cases h) (fun r w2 nx2 hp => ?_)
  obtain ⟨rfl, rfl, rfl⟩ := hp
  refine aw_aload_nR (pc := 9) X d_Ex_define_9 (by rfl) ?_
  refine aw_iconstN (pc := 10) X 1 d_Ex_define_10 (by decide) ?_
  -- invokevirtual 11 lv=0:r,1:r,2:n st=n,r,n,r
  refine aw_callV (pc := 11) X _ (c_Ca_to (d := 0) (i := 1) (by omega) (by omega) c2 c1) q_Ca_to k_631 k_632 k_633 (by omega) c11 (by rfl) d_Ex_define_11 (by omega) (Nat.le_of_ble_eq_true rfl) ⟨by omega, by omega⟩ (fun h => by cases h) (fun r w2 nx2 hp => ?_)
  obtain ⟨rfl, rfl, rfl⟩ := hp
  refine aw_callSN (pc := 14) X (c_Rd_isName (d := 2) (q := 319) (l := 400) (by omega) (by omega) (by omega) f1.1 f1.2 c4 c3) q_Rd_isName k_664 k_665 d_Ex_define_14 (by omega) (Nat.le_of_ble_eq_true rfl) ⟨by omega, by omega⟩ (fun h => by cases h) (fun r w2 nx2 hp => ?_)
  obtain ⟨rfl, rfl, rfl⟩ := hp
  rw [a1]
  have hbl := bN_lt (isNm (argOf ar 1))
  refine aw_if_neN (pc := 17) X (tgt := 22) d_Ex_define_17 (by rfl) (by omega) (fun h17 => ?_) (fun h17 => ?_)
  -- br 17 lv=0:r,1:r,2:n st=
  · have z1 := bN_ne.mp h17
    have z1' : ¬ isNm (argOf ar 1) = false := by rw [z1]; decide
    have S2 : (12 < (argOf ar 1).length ∨ 100 < (argOf ar 2).length) → ∀ lv, AW G E 5 nx2 0 0 w2 42 lv [] := fun hlong lv => by
      refine aw_iconstN (pc := 42) X 2 d_Ex_define_42 (by decide) ?_
      refine aw_iret Y X rfl d_Ex_define_43 (by omega) (by omega) (hP _ _ _ ?_)
      rw [defS, if_neg z1', if_pos hlong]
      exact ⟨rfl, rfl, hT, fr.refl _ _ _⟩
    refine aw_aload_nR (pc := 22) X d_Ex_define_22 (by rfl) ?_
    refine aw_iconstN (pc := 23) X 1 d_Ex_define_23 (by decide) ?_
    -- invokevirtual 24 lv=0:r,1:r,2:n st=n,r
    refine aw_callV (pc := 24) X _ (c_Ca_length (d := 1) (i := 1) (by omega) (by omega) (by omega) c2 c1) q_Ca_length k_667 k_668 k_669 (by omega) c11 (by rfl) d_Ex_define_24 (by omega) (Nat.le_of_ble_eq_true rfl) ⟨by omega, by omega⟩ (fun h => by cases h) (fun r w2 nx2 hp => ?_)
    obtain ⟨rfl, rfl, rfl⟩ := hp
    rw [l1]
    refine aw_bipushN (pc := 27) X 12 d_Ex_define_27 (by decide) ?_
    refine aw_icmp_gtN (pc := 29) X (tgt := 42) d_Ex_define_29 (by rfl) (by omega) (by omega) (fun h29 => ?_) (fun h29 => ?_)
    -- br 29 lv=0:r,1:r,2:n st=
    · exact S2 (Or.inl h29) _
    · refine aw_aload_nR (pc := 32) X d_Ex_define_32 (by rfl) ?_
      refine aw_iconstN (pc := 33) X 2 d_Ex_define_33 (by decide) ?_
      -- invokevirtual 34 lv=0:r,1:r,2:n st=n,r
      refine aw_callV (pc := 34) X _ (c_Ca_length (d := 1) (i := 2) (by omega) (by omega) (by omega) c2 c1) q_Ca_length k_667 k_668 k_669 (by omega) c11 (by rfl) d_Ex_define_34 (by omega) (Nat.le_of_ble_eq_true rfl) ⟨by omega, by omega⟩ (fun h => by cases h) (fun r w2 nx2 hp => ?_)
      obtain ⟨rfl, rfl, rfl⟩ := hp
      rw [l2]
      refine aw_bipushN (pc := 37) X 100 d_Ex_define_37 (by decide) ?_
      refine aw_icmp_leN (pc := 39) X (tgt := 44) d_Ex_define_39 (by rfl) (by omega) (by omega) (fun h39 => ?_) (fun h39 => ?_)
      -- br 39 lv=0:r,1:r,2:n st=
      · have hshort : ¬ (12 < (argOf ar 1).length ∨ 100 < (argOf ar 2).length) := by omega
        -- from the place on
        have Pl : ∀ o, o = (if top = true then none else tfind T (argOf ar 1)) → AW G E 5 nx2 0 0 w2 57 [(0, rf G 412), (1, rf G a), (2, .int (nI (bN top)))] [.int (pV o)] := by
          intro o ho
          have hdS : defS T ar top = defB T ar o := by
            rw [defS, if_neg z1', if_neg hshort, ← ho]
          cases o with
          | none =>
            refine aw_istore_n (pc := 57) X (lv' := [(3, _), (0, _), (1, _), (2, _)]) d_Ex_define_57 (by decide) (by rfl) ?_
            refine aw_iload_n (pc := 58) X d_Ex_define_58 (by rfl) ?_
            refine aw_iconst (pc := 59) X (v := -1) d_Ex_define_59 (by decide) ?_
            refine aw_icmp_ne (pc := 60) X (tgt := 87) d_Ex_define_60 (by rfl) (fun h60 => ?_) (fun h60 => ?_)
            -- br 60 lv=3:i,0:r,1:r,2:n st=
            · exact absurd rfl h60
            · refine aw_aload_nR (pc := 63) X d_Ex_define_63 (by rfl) ?_
              refine aw_getO (pc := 64) X _ 2 (by omega) (by (repeat (first | rw [aw_up_eq] | rw [aw_up_ne _ _ (by first | assumption | omega)])) <;> first | assumption | rfl) (by rfl) in_Ex (by decide) k_358 (by rfl) d_Ex_define_64 ?_
              refine aw_aload_nR (pc := 67) X d_Ex_define_67 (by rfl) ?_
              refine aw_getNO (pc := 68) X _ 1 (by omega) (by (repeat (first | rw [aw_up_eq] | rw [aw_up_ne _ _ (by first | assumption | omega)])) <;> first | assumption | rfl) (by rfl) in_Ca (by decide) k_282 (by rfl) d_Ex_define_68 ?_
              refine aw_aload_nR (pc := 71) X d_Ex_define_71 (by rfl) ?_
              refine aw_iconstN (pc := 72) X 1 d_Ex_define_72 (by decide) ?_
              -- invokevirtual 73 lv=3:i,0:r,1:r,2:n st=n,r,r,r
              refine aw_callV (pc := 73) X _ (c_Ca_from (d := 0) (i := 1) (by omega) (by omega) c2 c1) q_Ca_from k_627 k_628 k_629 (by omega) c11 (by rfl) d_Ex_define_73 (by omega) (Nat.le_of_ble_eq_true rfl) ⟨by omega, by omega⟩ (fun h => by cases h) (fun r w2 nx2 hp => ?_)
              obtain ⟨rfl, rfl, rfl⟩ := hp
              refine aw_aload_nR (pc := 76) X d_Ex_define_76 (by rfl) ?_
              refine aw_iconstN (pc := 77) X 1 d_Ex_define_77 (by decide) ?_
              -- invokevirtual 78 lv=3:i,0:r,1:r,2:n st=n,r,n,r,r
              refine aw_callV (pc := 78) X _ (c_Ca_to (d := 0) (i := 1) (by omega) (by omega) c2 c1) q_Ca_to k_631 k_632 k_633 (by omega) c11 (by rfl) d_Ex_define_78 (by omega) (Nat.le_of_ble_eq_true rfl) ⟨by omega, by omega⟩ (fun h => by cases h) (fun r w2 nx2 hp => ?_)
              obtain ⟨rfl, rfl, rfl⟩ := hp
              refine aw_callV (pc := 81) X _ (s_Ta_push (d := 3) (q := 319) (l := 400) (f := gg) (by omega) (by omega) (by omega) (by omega) (by omega) f1.1 f1.2 c4 hTP c3) q_Ta_push k_678 k_679 k_680 (by omega) b2 (by rfl) d_Ex_define_81 (by omega) (Nat.le_of_ble_eq_true rfl) ⟨by omega, by omega⟩ (fun h => by cases h) (fun r w3 nx3 hp => ?_)
              obtain ⟨rfl, ⟨y1, rfl, rfl⟩ | ⟨y1, rfl, ⟨t1, hT1⟩, hf3⟩⟩ := hp
              · refine aw_goto (pc := 84) X (tgt := 96) d_Ex_define_84 (by rfl) ?_
                refine aw_astoreN (pc := 96) X (lv' := [(4, _), (3, _), (0, _), (1, _), (2, _)]) d_Ex_define_96 (by decide) (by rfl) ?_
                refine aw_aloadN (pc := 98) X d_Ex_define_98 (by rfl) ?_
                refine aw_ifnonnullN (pc := 100) X d_Ex_define_100 ?_
                refine aw_iconstN (pc := 103) X 2 d_Ex_define_103 (by decide) ?_
                refine aw_iret Y X rfl d_Ex_define_104 (by omega) (by omega) (hP _ _ _ ?_)
                -- ret 104 lv=4:0,3:i,0:r,1:r,2:n st=n
                rw [hdS, defB, if_pos y1]
                exact ⟨rfl, rfl, hT, fr.refl _ _ _⟩
              · refine aw_goto (pc := 84) X (tgt := 96) d_Ex_define_84 (by rfl) ?_
                refine aw_astoreR (pc := 96) X (lv' := [(4, _), (3, _), (0, _), (1, _), (2, _)]) d_Ex_define_96 (by decide) (by rfl) ?_
                refine aw_aloadR (pc := 98) X d_Ex_define_98 (by rfl) ?_
                refine aw_ifnonnull (pc := 100) X (tgt := 105) d_Ex_define_100 (by rfl) ?_
                -- stop 105 lv=4:r,3:i,0:r,1:r,2:n st=
                rw [a1, List.take_of_length_le (by omega)] at hT1
                refine B w3 _ T.length (argOf ar 1, t1.2) [] _ hT1 hf3 (by simp) ?_ (by omega)
                rw [hdS, defB, if_neg (show ¬ 60 ≤ T.length by omega)]
                congr 1
                rw [List.set_append_right _ _ (Nat.le_refl _)]
                simp
          | some i =>
            have htf : tfind T (argOf ar 1) = some i := by
              cases top with
              | true => cases ho
              | false => exact ho.symm
            have hi := tfd_lt htf
            have hnm := tfd_name htf
            have hti : T[i]? = some T[i] := List.getElem?_eq_getElem hi
            rw [hti] at hnm
            have hnm2 : T[i].1 = argOf ar 1 := by simpa using hnm
            have b4i := b4 i (by omega)
            have b41 := b4i.1
            refine AW.of rfl rfl rfl rfl rfl (rest' := [.int (nI i)]) rfl ?_
            refine aw_istore_n (pc := 57) X (lv' := [(3, _), (0, _), (1, _), (2, _)]) d_Ex_define_57 (by decide) (by rfl) ?_
            refine aw_iload_n (pc := 58) X d_Ex_define_58 (by rfl) ?_
            refine aw_iconst (pc := 59) X (v := -1) d_Ex_define_59 (by decide) ?_
            refine aw_icmp_ne (pc := 60) X (tgt := 87) d_Ex_define_60 (by rfl) (fun h60 => ?_) (fun h60 => ?_)
            -- br 60 lv=3:n,0:r,1:r,2:n st=
            · refine aw_aload_nR (pc := 87) X d_Ex_define_87 (by rfl) ?_
              refine aw_getO (pc := 88) X _ 2 (by omega) (by (repeat (first | rw [aw_up_eq] | rw [aw_up_ne _ _ (by first | assumption | omega)])) <;> first | assumption | rfl) (by rfl) in_Ex (by decide) k_358 (by rfl) d_Ex_define_88 ?_
              refine aw_getNO (pc := 91) X _ 0 (by omega) (by (repeat (first | rw [aw_up_eq] | rw [aw_up_ne _ _ (by first | assumption | omega)])) <;> first | assumption | rfl) (by rfl) in_Ta (by decide) k_252 (by rfl) d_Ex_define_91 ?_
              refine aw_iload_n (pc := 94) X d_Ex_define_94 (by rfl) ?_
              refine aw_aaldN (pc := 95) X _ 5 (by omega) (by (repeat (first | rw [aw_up_eq] | rw [aw_up_ne _ _ (by first | assumption | omega)])) <;> first | assumption | rfl) (by rfl) (by omega) (by omega) (by assumption) d_Ex_define_95 ?_
              refine aw_astoreR (pc := 96) X (lv' := [(4, _), (3, _), (0, _), (1, _), (2, _)]) d_Ex_define_96 (by decide) (by rfl) ?_
              refine aw_aloadR (pc := 98) X d_Ex_define_98 (by rfl) ?_
              refine aw_ifnonnull (pc := 100) X (tgt := 105) d_Ex_define_100 (by rfl) ?_
              -- stop 105 lv=4:r,3:n,0:r,1:r,2:n st=
              refine B w2 T i T[i] [] _ hTP (fr.refl _ _ _) hti ?_ (by omega)
              rw [hdS, hnm2]
              rfl
            · exact absurd ((pV_inj (o := none) (i := i) (fun _ q => by cases q) (by omega)).mp h60.symm) (by simp)
        refine aw_iload_n (pc := 44) X d_Ex_define_44 (by rfl) ?_
        refine aw_if_eqN (pc := 45) X (tgt := 52) d_Ex_define_45 (by rfl) (by omega) (fun h45 => ?_) (fun h45 => ?_)
        -- br 45 lv=0:r,1:r,2:n st=
        · have z2 := bN_eq.mp h45
          refine aw_aload_nR (pc := 52) X d_Ex_define_52 (by rfl) ?_
          refine aw_aload_nR (pc := 53) X d_Ex_define_53 (by rfl) ?_
          -- invokevirtual 54 lv=0:r,1:r,2:n st=r,r
          refine aw_callV (pc := 54) X _ (s_Ex_placeOfFirst (d := 2) hnx (by omega) ha he hT h0) q_Ex_placeOfFirst k_673 k_675 k_13 (by omega) he (by rfl) d_Ex_define_54 (by omega) (Nat.le_of_ble_eq_true rfl) ⟨by omega, by omega⟩ (fun h => by cases h) (fun r w2 nx2 hp => ?_)
          obtain ⟨rfl, rfl, rfl⟩ := hp
          exact Pl _ (by rw [z2]; rfl)
        · have z2 := bN_ne.mp h45
          refine aw_iconst (pc := 48) X (v := -1) d_Ex_define_48 (by decide) ?_
          refine aw_goto (pc := 49) X (tgt := 57) d_Ex_define_49 (by rfl) ?_
          -- stop 57 lv=0:r,1:r,2:n st=i
          exact Pl none (by rw [z2]; rfl)
      · exact S2 (Or.inr h39) _
  · have z1 := bN_eq.mp h17
    refine aw_iconstN (pc := 20) X 0 d_Ex_define_20 (by decide) ?_
    refine aw_iret Y X rfl d_Ex_define_21 (by omega) (by omega) (hP _ _ _ ?_)
    -- ret 21 lv=0:r,1:r,2:n st=n
    rw [defS, if_pos z1]
    exact ⟨rfl, rfl, hT, fr.refl _ _ _⟩
end
end
section
/-! Expander.act, makeText: the constants' switches. The state: front, present row, rows, table, what is made -/
def y_JE_ordinal : MethodName := ⟨"java/lang/Enum", "ordinal", "()I"⟩
abbrev b_JE_ordinal : ByteArray := prog_15_method_2_code
theorem d_JE_ordinal_0 : decode b_JE_ordinal 0 = .ok (.aload_n 0, 1) := by decide +kernel
theorem d_JE_ordinal_1 : decode b_JE_ordinal 1 = .ok (.getfield 7, 3) := by decide +kernel
theorem d_JE_ordinal_4 : decode b_JE_ordinal 4 = .ok (.ireturn, 1) := by decide +kernel
theorem q_JE_ordinal : aw_q1 y_JE_ordinal b_JE_ordinal 1 (some .int) 0 := ⟨k_659, k_69, ⟨by decide, by decide, by decide +kernel⟩, by decide⟩
abbrev XS : Type := List Nat × Option Nat × (Nat → List Nat) × List Def × List Nat
def hFr (G : aw_G) (w : Nat → va_E) (F : List Nat) : Prop := F.length ≤ 600 ∧ ∃ f : Nat → Nat, w 3 = oFr G 4 (600 - F.length) ∧ w 4 = aCh G 600 f ∧ F = sl f (600 - F.length) F.length ∧ ∀ j, f j < 65536
theorem hFr.keep {G : aw_G} {w w' : Nat → va_E} {F : List Nat} {lo hi : Nat} (h : hFr G w F) (hf : fr lo hi w w') (h1 : hi ≤ 3 ∨ 5 ≤ lo) : hFr G w' F := by
  obtain ⟨h0, f, a1, a2, a3⟩ := h
  exact ⟨h0, f, (hf _ (by omega)).trans a1, (hf _ (by omega)).trans a2, a3⟩
def hX (G : aw_G) (w : Nat → va_E) (q : XS) : Prop := hFr G w q.1 ∧ hRo G w q.2.1 q.2.2.1 ∧ hTa G w q.2.2.2.1 ∧ hEp G w ∧ hTx G w 416 601 q.2.2.2.2 ∧ hEx w G
/-- nothing but the front, the rows, the table, the expression and what is made has changed -/
def fx (w w' : Nat → va_E) : Prop := ∀ x, x < 3 ∨ (317 ≤ x ∧ x < 413) ∨ 418 ≤ x → w' x = w x
theorem fx.refl (w : Nat → va_E) : fx w w := fun _ _ => rfl
theorem fx.trans {w w1 w2 : Nat → va_E} (h1 : fx w w1) (h2 : fx w1 w2) : fx w w2 := fun x hx => (h2 x hx).trans (h1 x hx)
theorem fx.of {w w' : Nat → va_E} {lo hi : Nat} (h : fr lo hi w w') (h1 : 3 ≤ lo ∧ hi ≤ 317 ∨ 413 ≤ lo ∧ hi ≤ 418) : fx w w' := fun x hx => h x (by omega)
theorem hRdy.fx {G : aw_G} {w w' : Nat → va_E} {a : Nat} {t : Def} {ar : List (List Nat)} (h : hRdy G w a t ar) (ha : 321 ≤ a ∧ a + 7 ≤ 412) (hf : fx w w') : hRdy G w' a t ar := by
  obtain ⟨st, gg, dp, bg, c1, c2, c3, c4⟩ := h
  exact ⟨st, gg, dp, bg, ⟨(hf _ (by omega)).trans c1.1, ⟨(hf _ (by omega)).trans c1.2.1.1, c1.2.1.2.1.kept (hf _ (by omega)) (hf _ (by omega)), c1.2.1.2.2.kept (hf _ (by omega)) (hf _ (by omega))⟩, (hf _ (by omega)).trans c1.2.2⟩, c2, (hf _ (by omega)).trans c3, c4⟩
/-- what a builtin does beside the text that it makes: its error, the state -/
def actS (k : Nat) (ar : List (List Nat)) (va : Int64) (x' : ES) (q : XS) : Nat × XS :=
  if k = 0 then ((defS q.2.2.2.1 ar false).1, q.1, q.2.1, q.2.2.1, (defS q.2.2.2.1 ar false).2, q.2.2.2.2)
  else if k = 1 then ((defS q.2.2.2.1 ar true).1, q.1, q.2.1, q.2.2.1, (defS q.2.2.2.1 ar true).2, q.2.2.2.2)
  else if k = 2 then (0, q.1, q.2.1, q.2.2.1, popS q.2.2.2.1 (argOf ar 1), q.2.2.2.2)
  else if k = 3 then (0, q.1, q.2.1, q.2.2.1, q.2.2.2.1.filter (isn (argOf ar 1)), q.2.2.2.2)
  else if k = 12 then (0, q.1, chS (valL (argOf ar 1)), q.2.2)
  else if k = 13 then (e2 (undS q.2.1 q.2.2.1 ar).1, q.1, q.2.1, (undS q.2.1 q.2.2.1 ar).2, q.2.2.2)
  else if k = 15 then (0, q.1.drop (lnLen q.1), q.2)
  else if k = 7 then (rckS ((argOf ar 1).filter nbl) va x', q.1, q.2.1, q.2.2.1, q.2.2.2.1, if rckS ((argOf ar 1).filter nbl) va x' = 0 then (q.2.2.2.2 ++ dec va).take 601 else q.2.2.2.2)
  else (0, q)
section
variable {G : aw_G} {nx d : Nat} {w : Nat → va_E}
theorem c_JE_ordinal {k : Nat} (hk : k < 16) : AC G y_JE_ordinal b_JE_ordinal 1 (some .int) d false [.ref (G.2.2.2.2 k)] nx w 0 0 (fun r w' nx' => nx' = nx ∧ w' = w ∧ r = some (.int (nI k))) := by
  refine AC.ofW (by decide) (Nat.le_of_ble_eq_true rfl) ?_
  intro E P hP Y X
  have X : aw_X G "java/lang/Enum" b_JE_ordinal 1 (some .int) "ordinal" _ _ _ _ _ E := X
  refine AW.eql (lv' := [(0, _)]) (by rfl) ?_
  refine aw_aload_n (pc := 0) X d_JE_ordinal_0 (by rfl) ?_
  -- field 1 lv=0:c st=c
  refine aw_getc (pc := 1) X (X.c.2.2.2.2.2.2 k hk).2.1 k_1164 d_JE_ordinal_1 ?_
  refine aw_iret Y X rfl d_JE_ordinal_4 (by omega) (by omega) (hP _ _ _ ?_)
  -- ret 4 lv=0:c st=n
  exact ⟨rfl, rfl, rfl⟩
end
end
section
/-! Expander.act -/
theorem lnLen_le (L : List Nat) : lnLen L ≤ L.length := by
  unfold lnLen
  split
  · omega
  · exact Nat.le_refl _
theorem hX.tab {G : aw_G} {w w' : Nat → va_E} {q : XS} {T : List Def} (h : hX G w q) (hT : hTa G w' T) (hf : fr 15 317 w w') : hX G w' (q.1, q.2.1, q.2.2.1, T, q.2.2.2.2) :=
  ⟨h.1.keep hf (by omega), h.2.1.keep hf (by omega), hT, h.2.2.2.1.keep hf (by omega), h.2.2.2.2.1.keep hf (by omega), (hf _ (by omega)).trans h.2.2.2.2.2⟩
theorem hX.row {G : aw_G} {w w' : Nat → va_E} {q : XS} {p : Option Nat} {R : Nat → List Nat} (h : hX G w q) (hR : hRo G w' p R) (hf : fr 5 15 w w') : hX G w' (q.1, p, R, q.2.2.2) :=
  ⟨h.1.keep hf (by omega), hR, h.2.2.1.keep hf (by omega), h.2.2.2.1.keep hf (by omega), h.2.2.2.2.1.keep hf (by omega), (hf _ (by omega)).trans h.2.2.2.2.2⟩
theorem hX.made {G : aw_G} {w w' : Nat → va_E} {q : XS} {s : List Nat} (h : hX G w q) (hs : hTx G w' 416 601 s) (hf : fr 416 418 w w') : hX G w' (q.1, q.2.1, q.2.2.1, q.2.2.2.1, s) :=
  ⟨h.1.keep hf (by omega), h.2.1.keep hf (by omega), h.2.2.1.keep hf (by omega), h.2.2.2.1.keep hf (by omega), hs, (hf _ (by omega)).trans h.2.2.2.2.2⟩
section
variable {G : aw_G} {nx d : Nat} {w : Nat → va_E}
theorem s_Ex_act {a k f : Nat} {t : Def} {ar : List (List Nat)} {q : XS} {va : Int64} {x' : ES} (hnx : 418 ≤ nx) (hd : 60 ≤ d) (ha : 321 ≤ a ∧ a + 7 ≤ 412) (hk : k < 16) (hx : hX G w q) (h : hRdy G w a t ar) (hev : ev ((argOf ar 1).filter nbl) f 1 0 0 false (0, false, false) = some (va, x')) : AC G y_Ex_act b_Ex_act 3 (some .int) d false [rf G 412, rf G a, .ref (G.2.2.2.2 k)] nx w 0 0 (fun r w' nx' => nx' = nx ∧ r = some (.int (nI (actS k ar va x' q).1)) ∧ hX G w' (actS k ar va x' q).2 ∧ fx w w') := by
  have hx0 := hx
  obtain ⟨x1, x2, x3, x4, x5, x6⟩ := hx
  have h0 := h
  obtain ⟨st, gg, dp, bg, c1, c2, c3, c4, c5, c6⟩ := h
  have c11 := c1.1
  have c1' : w a = aObj 7 [rf G (a + 1), rf G 319, rf G (a + 6), .int (nI ar.length), .int (nI dp), .int (nI (bN bg))] := c11
  have he' : w 412 = aObj 8 [rf G 3, rf G 5, rf G 15, rf G 413, rf G 416] := x6
  have a1 : sl gg (frm st ar.length 1) (too st ar.length 1 - frm st ar.length 1) = argOf ar 1 := c6 1
  have hn9 := c2.1
  have f1 := c2.ft 1
  obtain ⟨nT, t15⟩ : ∃ n, w 15 = aObj 4 [rf G 16, .int (nI n)] := by obtain ⟨fa, g, z⟩ := x3; exact ⟨_, z.2.1⟩
  obtain ⟨z0, S0, ep1, ep2⟩ := id x4
  refine AC.ofW (by decide) (Nat.le_of_ble_eq_true rfl) ?_
  intro E P hP Y X
  have X : aw_X G "RescanDesk$Expander" b_Ex_act 3 (some .int) "act" _ _ _ _ _ E := X
  refine AW.eql (lv' := [(0, _), (1, _), (2, _)]) (by rfl) ?_
  refine aw_gets (pc := 0) X X.c.1 k_652 d_Ex_act_0 ?_
  refine aw_aload_n (pc := 3) X d_Ex_act_3 (by rfl) ?_
  -- stop 4 lv=0:r,1:r,2:c st=c,c
  refine aw_callU (pc := 4) X (x := ⟨"RescanDesk$BuiltIn", "ordinal", "()I"⟩) (owner := "java/lang/Enum") "RescanDesk$BuiltIn" _ (c_JE_ordinal (d := 0) hk) q_JE_ordinal rfl ⟨by decide, by decide, by decide +kernel⟩ k_654 k_655 k_658 k_657 (X.c.2.2.2.2.2.2 k hk).1 d_Ex_act_4 (by omega) (Nat.le_of_ble_eq_true rfl) ⟨by omega, by omega⟩ (fun h => by cases h) (fun r w2 nx2 hp => ?_)
  obtain ⟨rfl, rfl, rfl⟩ := hp
  refine aw_ti (pc := 7) X X.c.2.1 hk (by omega) rfl d_Ex_act_7 ?_
  by_cases k0 : k = 0
  · subst k0
    refine aw_tableIn (pc := 8) X (off := 48) (tgt := 56) d_Ex_act_8 (by decide) (by decide) (by decide) (by rfl) ?_
    refine aw_aload_nR (pc := 56) X d_Ex_act_56 (by rfl) ?_
    refine aw_aload_nR (pc := 57) X d_Ex_act_57 (by rfl) ?_
    refine aw_iconstN (pc := 58) X 0 d_Ex_act_58 (by decide) ?_
    -- invokevirtual 59 lv=0:r,1:r,2:c st=n,r,r
    refine aw_callV (pc := 59) X _ (s_Ex_define (d := 4) (top := false) hnx (by omega) ha x6 x3 h0) q_Ex_define k_660 k_662 k_12 (by omega) x6 (by rfl) d_Ex_act_59 (by omega) (Nat.le_of_ble_eq_true rfl) ⟨by omega, by omega⟩ (fun h => by cases h) (fun r w2 nx2 hp => ?_)
    obtain ⟨rfl, rfl, h4, hf4⟩ := hp
    refine aw_iret Y X rfl d_Ex_act_62 (by omega) (by omega) (hP _ _ _ ?_)
    -- ret 62 lv=0:r,1:r,2:c st=n
    exact ⟨rfl, rfl, hx0.tab h4 hf4, fx.of hf4 (by omega)⟩
  by_cases k1 : k = 1
  · subst k1
    refine aw_tableIn (pc := 8) X (off := 55) (tgt := 63) d_Ex_act_8 (by decide) (by decide) (by decide) (by rfl) ?_
    refine aw_aload_nR (pc := 63) X d_Ex_act_63 (by rfl) ?_
    refine aw_aload_nR (pc := 64) X d_Ex_act_64 (by rfl) ?_
    refine aw_iconstN (pc := 65) X 1 d_Ex_act_65 (by decide) ?_
    -- invokevirtual 66 lv=0:r,1:r,2:c st=n,r,r
    refine aw_callV (pc := 66) X _ (s_Ex_define (d := 4) (top := true) hnx (by omega) ha x6 x3 h0) q_Ex_define k_660 k_662 k_12 (by omega) x6 (by rfl) d_Ex_act_66 (by omega) (Nat.le_of_ble_eq_true rfl) ⟨by omega, by omega⟩ (fun h => by cases h) (fun r w2 nx2 hp => ?_)
    obtain ⟨rfl, rfl, h4, hf4⟩ := hp
    refine aw_iret Y X rfl d_Ex_act_69 (by omega) (by omega) (hP _ _ _ ?_)
    -- ret 69 lv=0:r,1:r,2:c st=n
    exact ⟨rfl, rfl, hx0.tab h4 hf4, fx.of hf4 (by omega)⟩
  by_cases k2 : k = 2
  · subst k2
    refine aw_tableIn (pc := 8) X (off := 62) (tgt := 70) d_Ex_act_8 (by decide) (by decide) (by decide) (by rfl) ?_
    refine aw_aload_nR (pc := 70) X d_Ex_act_70 (by rfl) ?_
    refine aw_getO (pc := 71) X _ 2 (by omega) (by (repeat (first | rw [aw_up_eq] | rw [aw_up_ne _ _ (by first | assumption | omega)])) <;> first | assumption | rfl) (by rfl) in_Ex (by decide) k_358 (by rfl) d_Ex_act_71 ?_
    refine aw_aload_nR (pc := 74) X d_Ex_act_74 (by rfl) ?_
    refine aw_getNO (pc := 75) X _ 1 (by omega) (by (repeat (first | rw [aw_up_eq] | rw [aw_up_ne _ _ (by first | assumption | omega)])) <;> first | assumption | rfl) (by rfl) in_Ca (by decide) k_282 (by rfl) d_Ex_act_75 ?_
    refine aw_aload_nR (pc := 78) X d_Ex_act_78 (by rfl) ?_
    refine aw_iconstN (pc := 79) X 1 d_Ex_act_79 (by decide) ?_
    -- invokevirtual 80 lv=0:r,1:r,2:c st=n,r,r,r
    refine aw_callV (pc := 80) X _ (c_Ca_from (d := 0) (i := 1) (by omega) (by omega) c2 c1) q_Ca_from k_627 k_628 k_629 (by omega) c11 (by rfl) d_Ex_act_80 (by omega) (Nat.le_of_ble_eq_true rfl) ⟨by omega, by omega⟩ (fun h => by cases h) (fun r w2 nx2 hp => ?_)
    obtain ⟨rfl, rfl, rfl⟩ := hp
    refine aw_aload_nR (pc := 83) X d_Ex_act_83 (by rfl) ?_
    refine aw_iconstN (pc := 84) X 1 d_Ex_act_84 (by decide) ?_
    -- invokevirtual 85 lv=0:r,1:r,2:c st=n,r,n,r,r
    refine aw_callV (pc := 85) X _ (c_Ca_to (d := 0) (i := 1) (by omega) (by omega) c2 c1) q_Ca_to k_631 k_632 k_633 (by omega) c11 (by rfl) d_Ex_act_85 (by omega) (Nat.le_of_ble_eq_true rfl) ⟨by omega, by omega⟩ (fun h => by cases h) (fun r w2 nx2 hp => ?_)
    obtain ⟨rfl, rfl, rfl⟩ := hp
    refine aw_callV (pc := 88) X _ (s_Ta_pop (d := 2) (q := 319) (l := 400) (by omega) (by omega) (by omega) (by omega) f1.1 f1.2 c4 x3 c3) q_Ta_pop k_687 k_688 k_689 (by omega) t15 (by rfl) d_Ex_act_88 (by omega) (Nat.le_of_ble_eq_true rfl) ⟨by omega, by omega⟩ (fun h => by cases h) (fun r w2 nx2 hp => ?_)
    obtain ⟨rfl, rfl, h4, hf4⟩ := hp
    rw [a1] at h4
    refine aw_iconstN (pc := 91) X 0 d_Ex_act_91 (by decide) ?_
    refine aw_iret Y X rfl d_Ex_act_92 (by omega) (by omega) (hP _ _ _ ?_)
    -- ret 92 lv=0:r,1:r,2:c st=n
    exact ⟨rfl, rfl, hx0.tab h4 (hf4.mono (by omega) (by omega)), fx.of hf4 (by omega)⟩
  by_cases k3 : k = 3
  · subst k3
    refine aw_tableIn (pc := 8) X (off := 85) (tgt := 93) d_Ex_act_8 (by decide) (by decide) (by decide) (by rfl) ?_
    refine aw_aload_nR (pc := 93) X d_Ex_act_93 (by rfl) ?_
    refine aw_getO (pc := 94) X _ 2 (by omega) (by (repeat (first | rw [aw_up_eq] | rw [aw_up_ne _ _ (by first | assumption | omega)])) <;> first | assumption | rfl) (by rfl) in_Ex (by decide) k_358 (by rfl) d_Ex_act_94 ?_
    refine aw_aload_nR (pc := 97) X d_Ex_act_97 (by rfl) ?_
    refine aw_getNO (pc := 98) X _ 1 (by omega) (by (repeat (first | rw [aw_up_eq] | rw [aw_up_ne _ _ (by first | assumption | omega)])) <;> first | assumption | rfl) (by rfl) in_Ca (by decide) k_282 (by rfl) d_Ex_act_98 ?_
    refine aw_aload_nR (pc := 101) X d_Ex_act_101 (by rfl) ?_
    refine aw_iconstN (pc := 102) X 1 d_Ex_act_102 (by decide) ?_
    -- invokevirtual 103 lv=0:r,1:r,2:c st=n,r,r,r
    refine aw_callV (pc := 103) X _ (c_Ca_from (d := 0) (i := 1) (by omega) (by omega) c2 c1) q_Ca_from k_627 k_628 k_629 (by omega) c11 (by rfl) d_Ex_act_103 (by omega) (Nat.le_of_ble_eq_true rfl) ⟨by omega, by omega⟩ (fun h => by cases h) (fun r w2 nx2 hp => ?_)
    obtain ⟨rfl, rfl, rfl⟩ := hp
    refine aw_aload_nR (pc := 106) X d_Ex_act_106 (by rfl) ?_
    refine aw_iconstN (pc := 107) X 1 d_Ex_act_107 (by decide) ?_
    -- invokevirtual 108 lv=0:r,1:r,2:c st=n,r,n,r,r
    refine aw_callV (pc := 108) X _ (c_Ca_to (d := 0) (i := 1) (by omega) (by omega) c2 c1) q_Ca_to k_631 k_632 k_633 (by omega) c11 (by rfl) d_Ex_act_108 (by omega) (Nat.le_of_ble_eq_true rfl) ⟨by omega, by omega⟩ (fun h => by cases h) (fun r w2 nx2 hp => ?_)
    obtain ⟨rfl, rfl, rfl⟩ := hp
    refine aw_callV (pc := 111) X _ (s_Ta_popAll (d := 2) (q := 319) (l := 400) (by omega) (by omega) (by omega) (by omega) (by omega) f1.1 f1.2 c4 x3 c3) q_Ta_popAll k_695 k_696 k_697 (by omega) t15 (by rfl) d_Ex_act_111 (by omega) (Nat.le_of_ble_eq_true rfl) ⟨by omega, by omega⟩ (fun h => by cases h) (fun r w2 nx2 hp => ?_)
    obtain ⟨rfl, rfl, h4, hf4⟩ := hp
    rw [a1] at h4
    refine aw_iconstN (pc := 114) X 0 d_Ex_act_114 (by decide) ?_
    refine aw_iret Y X rfl d_Ex_act_115 (by omega) (by omega) (hP _ _ _ ?_)
    -- ret 115 lv=0:r,1:r,2:c st=n
    exact ⟨rfl, rfl, hx0.tab h4 (hf4.mono (by omega) (by omega)), fx.of hf4 (by omega)⟩
  by_cases k12 : k = 12
  · subst k12
    refine aw_tableIn (pc := 8) X (off := 108) (tgt := 116) d_Ex_act_8 (by decide) (by decide) (by decide) (by rfl) ?_
    refine aw_aload_nR (pc := 116) X d_Ex_act_116 (by rfl) ?_
    refine aw_getO (pc := 117) X _ 1 (by omega) (by (repeat (first | rw [aw_up_eq] | rw [aw_up_ne _ _ (by first | assumption | omega)])) <;> first | assumption | rfl) (by rfl) in_Ex (by decide) k_357 (by rfl) d_Ex_act_117 ?_
    refine aw_aload_nR (pc := 120) X d_Ex_act_120 (by rfl) ?_
    refine aw_iconstN (pc := 121) X 1 d_Ex_act_121 (by decide) ?_
    -- invokevirtual 122 lv=0:r,1:r,2:c st=n,r,r
    refine aw_callV (pc := 122) X _ (c_Ca_value (d := 2) (i := 1) (by omega) (by omega) (by omega) (by omega) c2 c1 c4 c3) q_Ca_value k_699 k_700 k_701 (by omega) c11 (by rfl) d_Ex_act_122 (by omega) (Nat.le_of_ble_eq_true rfl) ⟨by omega, by omega⟩ (fun h => by cases h) (fun r w2 nx2 hp => ?_)
    obtain ⟨rfl, rfl, rfl⟩ := hp
    refine aw_callV (pc := 125) X _ (s_Ro_choose (d := 0) (by omega) x2) q_Ro_choose k_707 k_708 k_709 (by omega) x2.1 (by rfl) d_Ex_act_125 (by omega) (Nat.le_of_ble_eq_true rfl) ⟨by omega, by omega⟩ (fun h => by cases h) (fun r w2 nx2 hp => ?_)
    obtain ⟨rfl, rfl, h4, hf4⟩ := hp
    rw [show argL gg st ar.length 1 = argOf ar 1 from c6 1] at h4
    refine aw_iconstN (pc := 128) X 0 d_Ex_act_128 (by decide) ?_
    refine aw_iret Y X rfl d_Ex_act_129 (by omega) (by omega) (hP _ _ _ ?_)
    -- ret 129 lv=0:r,1:r,2:c st=n
    exact ⟨rfl, rfl, hx0.row h4 hf4, fx.of hf4 (by omega)⟩
  by_cases k13 : k = 13
  · subst k13
    refine aw_tableIn (pc := 8) X (off := 122) (tgt := 130) d_Ex_act_8 (by decide) (by decide) (by decide) (by rfl) ?_
    refine aw_aload_nR (pc := 130) X d_Ex_act_130 (by rfl) ?_
    refine aw_aload_nR (pc := 131) X d_Ex_act_131 (by rfl) ?_
    -- invokevirtual 132 lv=0:r,1:r,2:c st=r,r
    refine aw_callV (pc := 132) X _ (s_Ex_undivert (d := 4) hnx (by omega) ha x6 x2 h0) q_Ex_undivert k_712 k_714 k_15 (by omega) x6 (by rfl) d_Ex_act_132 (by omega) (Nat.le_of_ble_eq_true rfl) ⟨by omega, by omega⟩ (fun h => by cases h) (fun r w2 nx2 hp => ?_)
    obtain ⟨rfl, rfl, h4, hf4⟩ := hp
    refine aw_iret Y X rfl d_Ex_act_135 (by omega) (by omega) (hP _ _ _ ?_)
    -- ret 135 lv=0:r,1:r,2:c st=n
    exact ⟨rfl, rfl, hx0.row h4 hf4, fx.of hf4 (by omega)⟩
  by_cases k15 : k = 15
  · subst k15
    obtain ⟨fl, ff, g1, g2, g3, g4⟩ := id x1
    refine aw_tableIn (pc := 8) X (off := 128) (tgt := 136) d_Ex_act_8 (by decide) (by decide) (by decide) (by rfl) ?_
    refine aw_aload_nR (pc := 136) X d_Ex_act_136 (by rfl) ?_
    refine aw_getO (pc := 137) X _ 0 (by omega) (by (repeat (first | rw [aw_up_eq] | rw [aw_up_ne _ _ (by first | assumption | omega)])) <;> first | assumption | rfl) (by rfl) in_Ex (by decide) k_356 (by rfl) d_Ex_act_137 ?_
    -- invokevirtual 140 lv=0:r,1:r,2:c st=r
    refine aw_callV (pc := 140) X _ (c_Fr_takeLine (d := 0) (a := 3) (c := 4) (n := 600 - q.1.length) (f := ff) (by omega) (by omega) (by omega) (by omega) g4 g1 g2) q_Fr_takeLine k_731 k_732 k_733 (by omega) g1 (by rfl) d_Ex_act_140 (by omega) (Nat.le_of_ble_eq_true rfl) ⟨by omega, by omega⟩ (fun h => by cases h) (fun r w2 nx2 hp => ?_)
    obtain ⟨rfl, rfl, rfl⟩ := hp
    refine aw_iconstN (pc := 143) X 0 d_Ex_act_143 (by decide) ?_
    refine aw_iret Y X rfl d_Ex_act_144 (by omega) (by omega) (hP _ _ _ ?_)
    -- ret 144 lv=0:r,1:r,2:c st=n
    rw [show 600 - (600 - q.1.length) = q.1.length by omega, ← g3]
    have hle := lnLen_le q.1
    have hf4 : fr 3 4 w2 (aw_up w2 3 (oFr G 4 (600 - q.1.length + lnLen q.1))) := (fr.refl _ _ _).up _ (by omega)
    refine ⟨rfl, rfl, ⟨⟨by show (q.1.drop _).length ≤ 600; rw [List.length_drop]; omega, ff, ?_, (hf4 _ (by omega)).trans g2, ?_, g4⟩, x2.keep hf4 (by omega), x3.keep hf4 (by omega), x4.keep hf4 (by omega), x5.keep hf4 (by omega), (hf4 _ (by omega)).trans x6⟩, fx.of hf4 (by omega)⟩
    · show aw_up w2 3 _ 3 = oFr G 4 (600 - (q.1.drop (lnLen q.1)).length)
      rw [aw_up_eq, List.length_drop]
      congr 1
      omega
    · show q.1.drop (lnLen q.1) = sl ff (600 - (q.1.drop (lnLen q.1)).length) (q.1.drop (lnLen q.1)).length
      rw [List.length_drop]
      have e := sl_drop ff (600 - q.1.length) q.1.length (lnLen q.1) hle
      rw [← g3] at e
      rw [e]
      congr 1
      omega
  by_cases k7 : k = 7
  · subst k7
    refine aw_tableIn (pc := 8) X (off := 137) (tgt := 145) d_Ex_act_8 (by decide) (by decide) (by decide) (by rfl) ?_
    refine aw_aload_nR (pc := 145) X d_Ex_act_145 (by rfl) ?_
    refine aw_getO (pc := 146) X _ 3 (by omega) (by (repeat (first | rw [aw_up_eq] | rw [aw_up_ne _ _ (by first | assumption | omega)])) <;> first | assumption | rfl) (by rfl) in_Ex (by decide) k_359 (by rfl) d_Ex_act_146 ?_
    refine aw_aload_nR (pc := 149) X d_Ex_act_149 (by rfl) ?_
    refine aw_getNO (pc := 150) X _ 1 (by omega) (by (repeat (first | rw [aw_up_eq] | rw [aw_up_ne _ _ (by first | assumption | omega)])) <;> first | assumption | rfl) (by rfl) in_Ca (by decide) k_282 (by rfl) d_Ex_act_150 ?_
    refine aw_aload_nR (pc := 153) X d_Ex_act_153 (by rfl) ?_
    refine aw_iconstN (pc := 154) X 1 d_Ex_act_154 (by decide) ?_
    -- invokevirtual 155 lv=0:r,1:r,2:c st=n,r,r,r
    refine aw_callV (pc := 155) X _ (c_Ca_from (d := 0) (i := 1) (by omega) (by omega) c2 c1) q_Ca_from k_627 k_628 k_629 (by omega) c11 (by rfl) d_Ex_act_155 (by omega) (Nat.le_of_ble_eq_true rfl) ⟨by omega, by omega⟩ (fun h => by cases h) (fun r w2 nx2 hp => ?_)
    obtain ⟨rfl, rfl, rfl⟩ := hp
    refine aw_aload_nR (pc := 158) X d_Ex_act_158 (by rfl) ?_
    refine aw_iconstN (pc := 159) X 1 d_Ex_act_159 (by decide) ?_
    -- invokevirtual 160 lv=0:r,1:r,2:c st=n,r,n,r,r
    refine aw_callV (pc := 160) X _ (c_Ca_to (d := 0) (i := 1) (by omega) (by omega) c2 c1) q_Ca_to k_631 k_632 k_633 (by omega) c11 (by rfl) d_Ex_act_160 (by omega) (Nat.le_of_ble_eq_true rfl) ⟨by omega, by omega⟩ (fun h => by cases h) (fun r w2 nx2 hp => ?_)
    obtain ⟨rfl, rfl, rfl⟩ := hp
    refine aw_aload_nR (pc := 163) X d_Ex_act_163 (by rfl) ?_
    refine aw_getO (pc := 164) X _ 4 (by omega) (by (repeat (first | rw [aw_up_eq] | rw [aw_up_ne _ _ (by first | assumption | omega)])) <;> first | assumption | rfl) (by rfl) in_Ex (by decide) k_360 (by rfl) d_Ex_act_164 ?_
    -- invokevirtual 167 lv=0:r,1:r,2:c st=r,n,n,r,r
    refine aw_callV (pc := 167) X _ (s_Ep_reckon (d := 58) (q := 319) (l := 400) (gg := gg) (s := q.2.2.2.2) (S := (argOf ar 1).filter nbl) hnx (by omega) (by omega) (by omega) (by omega) f1.1 f1.2 c4 c3 x4 x5 (by rw [a1]) hev) q_Ep_reckon k_735 k_736 k_737 (by omega) ep1 (by rfl) d_Ex_act_167 (by omega) (Nat.le_of_ble_eq_true rfl) ⟨by omega, by omega⟩ (fun h => by cases h) (fun r w2 nx2 hp => ?_)
    obtain ⟨rfl, rfl, h4, h5, hf4⟩ := hp
    refine aw_iret Y X rfl d_Ex_act_170 (by omega) (by omega) (hP _ _ _ ?_)
    -- ret 170 lv=0:r,1:r,2:c st=n
    exact ⟨rfl, rfl, ⟨x1.keep hf4 (by omega), x2.keep hf4 (by omega), x3.keep hf4 (by omega), h4, h5, (hf4 _ (by omega)).trans x6⟩, fx.of hf4 (by omega)⟩
  have hS : actS k ar va x' q = (0, q) := by rw [actS, if_neg k0, if_neg k1, if_neg k2, if_neg k3, if_neg k12, if_neg k13, if_neg k15, if_neg k7]
  refine aw_tableOut (pc := 8) X (tgt := 171) d_Ex_act_8 (by rcases (show k = 4 ∨ k = 5 ∨ k = 6 ∨ k = 8 ∨ k = 9 ∨ k = 10 ∨ k = 11 ∨ k = 14 by omega) with rfl | rfl | rfl | rfl | rfl | rfl | rfl | rfl <;> decide) (by rfl) ?_
  refine aw_iconstN (pc := 171) X 0 d_Ex_act_171 (by decide) ?_
  refine aw_iret Y X rfl d_Ex_act_172 (by omega) (by omega) (hP _ _ _ ?_)
  -- ret 172 lv=0:r,1:r,2:c st=n
  rw [hS]
  exact ⟨rfl, rfl, hx0, fx.refl _⟩
end
end
