/-! characters, names, numbers (static methods of RescanDesk); RescanDesk$Front -/
def y_Rd_isLetter : MethodName := ⟨"RescanDesk", "isLetter", "(C)Z"⟩
abbrev b_Rd_isLetter : ByteArray := prog_1_method_14_code
theorem d_Rd_isLetter_0 : decode b_Rd_isLetter 0 = .ok (.iload_n 0, 1) := by decide +kernel
theorem d_Rd_isLetter_1 : decode b_Rd_isLetter 1 = .ok (.bipush 97, 2) := by decide +kernel
theorem d_Rd_isLetter_3 : decode b_Rd_isLetter 3 = .ok (.if_icmp .lt 9, 3) := by decide +kernel
theorem d_Rd_isLetter_6 : decode b_Rd_isLetter 6 = .ok (.iload_n 0, 1) := by decide +kernel
theorem d_Rd_isLetter_7 : decode b_Rd_isLetter 7 = .ok (.bipush 122, 2) := by decide +kernel
theorem d_Rd_isLetter_9 : decode b_Rd_isLetter 9 = .ok (.if_icmp .le 21, 3) := by decide +kernel
theorem d_Rd_isLetter_12 : decode b_Rd_isLetter 12 = .ok (.iload_n 0, 1) := by decide +kernel
theorem d_Rd_isLetter_13 : decode b_Rd_isLetter 13 = .ok (.bipush 65, 2) := by decide +kernel
theorem d_Rd_isLetter_15 : decode b_Rd_isLetter 15 = .ok (.if_icmp .lt 9, 3) := by decide +kernel
theorem d_Rd_isLetter_18 : decode b_Rd_isLetter 18 = .ok (.iload_n 0, 1) := by decide +kernel
theorem d_Rd_isLetter_19 : decode b_Rd_isLetter 19 = .ok (.bipush 90, 2) := by decide +kernel
theorem d_Rd_isLetter_21 : decode b_Rd_isLetter 21 = .ok (.if_icmp .le 9, 3) := by decide +kernel
theorem d_Rd_isLetter_24 : decode b_Rd_isLetter 24 = .ok (.iload_n 0, 1) := by decide +kernel
theorem d_Rd_isLetter_25 : decode b_Rd_isLetter 25 = .ok (.bipush 95, 2) := by decide +kernel
theorem d_Rd_isLetter_27 : decode b_Rd_isLetter 27 = .ok (.if_icmp .ne 7, 3) := by decide +kernel
theorem d_Rd_isLetter_30 : decode b_Rd_isLetter 30 = .ok (.iconst 1, 1) := by decide +kernel
theorem d_Rd_isLetter_31 : decode b_Rd_isLetter 31 = .ok (.goto 4, 3) := by decide +kernel
theorem d_Rd_isLetter_34 : decode b_Rd_isLetter 34 = .ok (.iconst 0, 1) := by decide +kernel
theorem d_Rd_isLetter_35 : decode b_Rd_isLetter 35 = .ok (.ireturn, 1) := by decide +kernel
theorem q_Rd_isLetter : aw_q1 y_Rd_isLetter b_Rd_isLetter 1 (some .boolean) 1 := ⟨k_556, k_63, ⟨by decide, by decide, by decide +kernel⟩, by decide⟩
def y_Rd_isDigit : MethodName := ⟨"RescanDesk", "isDigit", "(C)Z"⟩
abbrev b_Rd_isDigit : ByteArray := prog_1_method_15_code
theorem d_Rd_isDigit_0 : decode b_Rd_isDigit 0 = .ok (.iload_n 0, 1) := by decide +kernel
theorem d_Rd_isDigit_1 : decode b_Rd_isDigit 1 = .ok (.bipush 48, 2) := by decide +kernel
theorem d_Rd_isDigit_3 : decode b_Rd_isDigit 3 = .ok (.if_icmp .lt 13, 3) := by decide +kernel
theorem d_Rd_isDigit_6 : decode b_Rd_isDigit 6 = .ok (.iload_n 0, 1) := by decide +kernel
theorem d_Rd_isDigit_7 : decode b_Rd_isDigit 7 = .ok (.bipush 57, 2) := by decide +kernel
theorem d_Rd_isDigit_9 : decode b_Rd_isDigit 9 = .ok (.if_icmp .gt 7, 3) := by decide +kernel
theorem d_Rd_isDigit_12 : decode b_Rd_isDigit 12 = .ok (.iconst 1, 1) := by decide +kernel
theorem d_Rd_isDigit_13 : decode b_Rd_isDigit 13 = .ok (.goto 4, 3) := by decide +kernel
theorem d_Rd_isDigit_16 : decode b_Rd_isDigit 16 = .ok (.iconst 0, 1) := by decide +kernel
theorem d_Rd_isDigit_17 : decode b_Rd_isDigit 17 = .ok (.ireturn, 1) := by decide +kernel
theorem q_Rd_isDigit : aw_q1 y_Rd_isDigit b_Rd_isDigit 1 (some .boolean) 1 := ⟨k_566, k_63, ⟨by decide, by decide, by decide +kernel⟩, by decide⟩
def y_Rd_isBlank : MethodName := ⟨"RescanDesk", "isBlank", "(C)Z"⟩
abbrev b_Rd_isBlank : ByteArray := prog_1_method_16_code
theorem d_Rd_isBlank_0 : decode b_Rd_isBlank 0 = .ok (.iload_n 0, 1) := by decide +kernel
theorem d_Rd_isBlank_1 : decode b_Rd_isBlank 1 = .ok (.bipush 32, 2) := by decide +kernel
theorem d_Rd_isBlank_3 : decode b_Rd_isBlank 3 = .ok (.if_icmp .eq 9, 3) := by decide +kernel
theorem d_Rd_isBlank_6 : decode b_Rd_isBlank 6 = .ok (.iload_n 0, 1) := by decide +kernel
theorem d_Rd_isBlank_7 : decode b_Rd_isBlank 7 = .ok (.bipush 10, 2) := by decide +kernel
theorem d_Rd_isBlank_9 : decode b_Rd_isBlank 9 = .ok (.if_icmp .ne 7, 3) := by decide +kernel
theorem d_Rd_isBlank_12 : decode b_Rd_isBlank 12 = .ok (.iconst 1, 1) := by decide +kernel
theorem d_Rd_isBlank_13 : decode b_Rd_isBlank 13 = .ok (.goto 4, 3) := by decide +kernel
theorem d_Rd_isBlank_16 : decode b_Rd_isBlank 16 = .ok (.iconst 0, 1) := by decide +kernel
theorem d_Rd_isBlank_17 : decode b_Rd_isBlank 17 = .ok (.ireturn, 1) := by decide +kernel
theorem q_Rd_isBlank : aw_q1 y_Rd_isBlank b_Rd_isBlank 1 (some .boolean) 1 := ⟨k_607, k_63, ⟨by decide, by decide, by decide +kernel⟩, by decide⟩
def y_Rd_nameEnd : MethodName := ⟨"RescanDesk", "nameEnd", "([CII)I"⟩
abbrev b_Rd_nameEnd : ByteArray := prog_1_method_17_code
theorem d_Rd_nameEnd_0 : decode b_Rd_nameEnd 0 = .ok (.iload_n 1, 1) := by decide +kernel
theorem d_Rd_nameEnd_1 : decode b_Rd_nameEnd 1 = .ok (.iload_n 2, 1) := by decide +kernel
theorem d_Rd_nameEnd_2 : decode b_Rd_nameEnd 2 = .ok (.if_icmp .ge 12, 3) := by decide +kernel
theorem d_Rd_nameEnd_5 : decode b_Rd_nameEnd 5 = .ok (.aload_n 0, 1) := by decide +kernel
theorem d_Rd_nameEnd_6 : decode b_Rd_nameEnd 6 = .ok (.iload_n 1, 1) := by decide +kernel
theorem d_Rd_nameEnd_7 : decode b_Rd_nameEnd 7 = .ok (.caload, 1) := by decide +kernel
theorem d_Rd_nameEnd_8 : decode b_Rd_nameEnd 8 = .ok (.invokestatic 135, 3) := by decide +kernel
theorem d_Rd_nameEnd_11 : decode b_Rd_nameEnd 11 = .ok (.ifCond .ne 5, 3) := by decide +kernel
theorem d_Rd_nameEnd_14 : decode b_Rd_nameEnd 14 = .ok (.iload_n 1, 1) := by decide +kernel
theorem d_Rd_nameEnd_15 : decode b_Rd_nameEnd 15 = .ok (.ireturn, 1) := by decide +kernel
theorem d_Rd_nameEnd_16 : decode b_Rd_nameEnd 16 = .ok (.iload_n 1, 1) := by decide +kernel
theorem d_Rd_nameEnd_17 : decode b_Rd_nameEnd 17 = .ok (.iconst 1, 1) := by decide +kernel
theorem d_Rd_nameEnd_18 : decode b_Rd_nameEnd 18 = .ok (.iadd, 1) := by decide +kernel
theorem d_Rd_nameEnd_19 : decode b_Rd_nameEnd 19 = .ok (.istore_n 3, 1) := by decide +kernel
theorem d_Rd_nameEnd_20 : decode b_Rd_nameEnd 20 = .ok (.iload_n 3, 1) := by decide +kernel
theorem d_Rd_nameEnd_21 : decode b_Rd_nameEnd 21 = .ok (.iload_n 2, 1) := by decide +kernel
theorem d_Rd_nameEnd_22 : decode b_Rd_nameEnd 22 = .ok (.if_icmp .ge 27, 3) := by decide +kernel
theorem d_Rd_nameEnd_25 : decode b_Rd_nameEnd 25 = .ok (.aload_n 0, 1) := by decide +kernel
theorem d_Rd_nameEnd_26 : decode b_Rd_nameEnd 26 = .ok (.iload_n 3, 1) := by decide +kernel
theorem d_Rd_nameEnd_27 : decode b_Rd_nameEnd 27 = .ok (.caload, 1) := by decide +kernel
theorem d_Rd_nameEnd_28 : decode b_Rd_nameEnd 28 = .ok (.invokestatic 135, 3) := by decide +kernel
theorem d_Rd_nameEnd_31 : decode b_Rd_nameEnd 31 = .ok (.ifCond .ne 12, 3) := by decide +kernel
theorem d_Rd_nameEnd_34 : decode b_Rd_nameEnd 34 = .ok (.aload_n 0, 1) := by decide +kernel
theorem d_Rd_nameEnd_35 : decode b_Rd_nameEnd 35 = .ok (.iload_n 3, 1) := by decide +kernel
theorem d_Rd_nameEnd_36 : decode b_Rd_nameEnd 36 = .ok (.caload, 1) := by decide +kernel
theorem d_Rd_nameEnd_37 : decode b_Rd_nameEnd 37 = .ok (.invokestatic 207, 3) := by decide +kernel
theorem d_Rd_nameEnd_40 : decode b_Rd_nameEnd 40 = .ok (.ifCond .eq 9, 3) := by decide +kernel
theorem d_Rd_nameEnd_43 : decode b_Rd_nameEnd 43 = .ok (.iinc 3 1, 3) := by decide +kernel
theorem d_Rd_nameEnd_46 : decode b_Rd_nameEnd 46 = .ok (.goto (-26), 3) := by decide +kernel
theorem d_Rd_nameEnd_49 : decode b_Rd_nameEnd 49 = .ok (.iload_n 3, 1) := by decide +kernel
theorem d_Rd_nameEnd_50 : decode b_Rd_nameEnd 50 = .ok (.ireturn, 1) := by decide +kernel
theorem q_Rd_nameEnd : aw_q1 y_Rd_nameEnd b_Rd_nameEnd 4 (some .int) 3 := ⟨k_563, k_63, ⟨by decide, by decide, by decide +kernel⟩, by decide⟩
def y_Rd_isName : MethodName := ⟨"RescanDesk", "isName", "([CII)Z"⟩
abbrev b_Rd_isName : ByteArray := prog_1_method_18_code
theorem d_Rd_isName_0 : decode b_Rd_isName 0 = .ok (.iload_n 1, 1) := by decide +kernel
theorem d_Rd_isName_1 : decode b_Rd_isName 1 = .ok (.iload_n 2, 1) := by decide +kernel
theorem d_Rd_isName_2 : decode b_Rd_isName 2 = .ok (.if_icmp .ge 17, 3) := by decide +kernel
theorem d_Rd_isName_5 : decode b_Rd_isName 5 = .ok (.aload_n 0, 1) := by decide +kernel
theorem d_Rd_isName_6 : decode b_Rd_isName 6 = .ok (.iload_n 1, 1) := by decide +kernel
theorem d_Rd_isName_7 : decode b_Rd_isName 7 = .ok (.iload_n 2, 1) := by decide +kernel
theorem d_Rd_isName_8 : decode b_Rd_isName 8 = .ok (.invokestatic 159, 3) := by decide +kernel
theorem d_Rd_isName_11 : decode b_Rd_isName 11 = .ok (.iload_n 2, 1) := by decide +kernel
theorem d_Rd_isName_12 : decode b_Rd_isName 12 = .ok (.if_icmp .ne 7, 3) := by decide +kernel
theorem d_Rd_isName_15 : decode b_Rd_isName 15 = .ok (.iconst 1, 1) := by decide +kernel
theorem d_Rd_isName_16 : decode b_Rd_isName 16 = .ok (.goto 4, 3) := by decide +kernel
theorem d_Rd_isName_19 : decode b_Rd_isName 19 = .ok (.iconst 0, 1) := by decide +kernel
theorem d_Rd_isName_20 : decode b_Rd_isName 20 = .ok (.ireturn, 1) := by decide +kernel
theorem q_Rd_isName : aw_q1 y_Rd_isName b_Rd_isName 3 (some .boolean) 3 := ⟨k_666, k_63, ⟨by decide, by decide, by decide +kernel⟩, by decide⟩
def y_Rd_valueOf : MethodName := ⟨"RescanDesk", "valueOf", "([CII)J"⟩
abbrev b_Rd_valueOf : ByteArray := prog_1_method_19_code
theorem d_Rd_valueOf_0 : decode b_Rd_valueOf 0 = .ok (.iload_n 1, 1) := by decide +kernel
theorem d_Rd_valueOf_1 : decode b_Rd_valueOf 1 = .ok (.iload_n 2, 1) := by decide +kernel
theorem d_Rd_valueOf_2 : decode b_Rd_valueOf 2 = .ok (.if_icmp .ge 15, 3) := by decide +kernel
theorem d_Rd_valueOf_5 : decode b_Rd_valueOf 5 = .ok (.aload_n 0, 1) := by decide +kernel
theorem d_Rd_valueOf_6 : decode b_Rd_valueOf 6 = .ok (.iload_n 1, 1) := by decide +kernel
theorem d_Rd_valueOf_7 : decode b_Rd_valueOf 7 = .ok (.caload, 1) := by decide +kernel
theorem d_Rd_valueOf_8 : decode b_Rd_valueOf 8 = .ok (.bipush 45, 2) := by decide +kernel
theorem d_Rd_valueOf_10 : decode b_Rd_valueOf 10 = .ok (.if_icmp .ne 7, 3) := by decide +kernel
theorem d_Rd_valueOf_13 : decode b_Rd_valueOf 13 = .ok (.iconst 1, 1) := by decide +kernel
theorem d_Rd_valueOf_14 : decode b_Rd_valueOf 14 = .ok (.goto 4, 3) := by decide +kernel
theorem d_Rd_valueOf_17 : decode b_Rd_valueOf 17 = .ok (.iconst 0, 1) := by decide +kernel
theorem d_Rd_valueOf_18 : decode b_Rd_valueOf 18 = .ok (.istore_n 3, 1) := by decide +kernel
theorem d_Rd_valueOf_19 : decode b_Rd_valueOf 19 = .ok (.iload_n 3, 1) := by decide +kernel
theorem d_Rd_valueOf_20 : decode b_Rd_valueOf 20 = .ok (.ifCond .eq 9, 3) := by decide +kernel
theorem d_Rd_valueOf_23 : decode b_Rd_valueOf 23 = .ok (.iload_n 1, 1) := by decide +kernel
theorem d_Rd_valueOf_24 : decode b_Rd_valueOf 24 = .ok (.iconst 1, 1) := by decide +kernel
theorem d_Rd_valueOf_25 : decode b_Rd_valueOf 25 = .ok (.iadd, 1) := by decide +kernel
theorem d_Rd_valueOf_26 : decode b_Rd_valueOf 26 = .ok (.goto 4, 3) := by decide +kernel
theorem d_Rd_valueOf_29 : decode b_Rd_valueOf 29 = .ok (.iload_n 1, 1) := by decide +kernel
theorem d_Rd_valueOf_30 : decode b_Rd_valueOf 30 = .ok (.istore 4, 2) := by decide +kernel
theorem d_Rd_valueOf_32 : decode b_Rd_valueOf 32 = .ok (.lconst 0, 1) := by decide +kernel
theorem d_Rd_valueOf_33 : decode b_Rd_valueOf 33 = .ok (.lstore 5, 2) := by decide +kernel
theorem d_Rd_valueOf_35 : decode b_Rd_valueOf 35 = .ok (.iload 4, 2) := by decide +kernel
theorem d_Rd_valueOf_37 : decode b_Rd_valueOf 37 = .ok (.istore 7, 2) := by decide +kernel
theorem d_Rd_valueOf_39 : decode b_Rd_valueOf 39 = .ok (.iload 7, 2) := by decide +kernel
theorem d_Rd_valueOf_41 : decode b_Rd_valueOf 41 = .ok (.iload_n 2, 1) := by decide +kernel
theorem d_Rd_valueOf_42 : decode b_Rd_valueOf 42 = .ok (.if_icmp .ge 38, 3) := by decide +kernel
theorem d_Rd_valueOf_45 : decode b_Rd_valueOf 45 = .ok (.aload_n 0, 1) := by decide +kernel
theorem d_Rd_valueOf_46 : decode b_Rd_valueOf 46 = .ok (.iload 7, 2) := by decide +kernel
theorem d_Rd_valueOf_48 : decode b_Rd_valueOf 48 = .ok (.caload, 1) := by decide +kernel
theorem d_Rd_valueOf_49 : decode b_Rd_valueOf 49 = .ok (.invokestatic 207, 3) := by decide +kernel
theorem d_Rd_valueOf_52 : decode b_Rd_valueOf 52 = .ok (.ifCond .ne 5, 3) := by decide +kernel
theorem d_Rd_valueOf_55 : decode b_Rd_valueOf 55 = .ok (.lconst 0, 1) := by decide +kernel
theorem d_Rd_valueOf_56 : decode b_Rd_valueOf 56 = .ok (.lreturn, 1) := by decide +kernel
theorem d_Rd_valueOf_57 : decode b_Rd_valueOf 57 = .ok (.lload 5, 2) := by decide +kernel
theorem d_Rd_valueOf_59 : decode b_Rd_valueOf 59 = .ok (.ldc2_w 210, 3) := by decide +kernel
theorem d_Rd_valueOf_62 : decode b_Rd_valueOf 62 = .ok (.lmul, 1) := by decide +kernel
theorem d_Rd_valueOf_63 : decode b_Rd_valueOf 63 = .ok (.aload_n 0, 1) := by decide +kernel
theorem d_Rd_valueOf_64 : decode b_Rd_valueOf 64 = .ok (.iload 7, 2) := by decide +kernel
theorem d_Rd_valueOf_66 : decode b_Rd_valueOf 66 = .ok (.caload, 1) := by decide +kernel
theorem d_Rd_valueOf_67 : decode b_Rd_valueOf 67 = .ok (.bipush 48, 2) := by decide +kernel
theorem d_Rd_valueOf_69 : decode b_Rd_valueOf 69 = .ok (.isub, 1) := by decide +kernel
theorem d_Rd_valueOf_70 : decode b_Rd_valueOf 70 = .ok (.i2l, 1) := by decide +kernel
theorem d_Rd_valueOf_71 : decode b_Rd_valueOf 71 = .ok (.ladd, 1) := by decide +kernel
theorem d_Rd_valueOf_72 : decode b_Rd_valueOf 72 = .ok (.lstore 5, 2) := by decide +kernel
theorem d_Rd_valueOf_74 : decode b_Rd_valueOf 74 = .ok (.iinc 7 1, 3) := by decide +kernel
theorem d_Rd_valueOf_77 : decode b_Rd_valueOf 77 = .ok (.goto (-38), 3) := by decide +kernel
theorem d_Rd_valueOf_80 : decode b_Rd_valueOf 80 = .ok (.iload_n 3, 1) := by decide +kernel
theorem d_Rd_valueOf_81 : decode b_Rd_valueOf 81 = .ok (.ifCond .eq 9, 3) := by decide +kernel
theorem d_Rd_valueOf_84 : decode b_Rd_valueOf 84 = .ok (.lload 5, 2) := by decide +kernel
theorem d_Rd_valueOf_86 : decode b_Rd_valueOf 86 = .ok (.lneg, 1) := by decide +kernel
theorem d_Rd_valueOf_87 : decode b_Rd_valueOf 87 = .ok (.goto 5, 3) := by decide +kernel
theorem d_Rd_valueOf_90 : decode b_Rd_valueOf 90 = .ok (.lload 5, 2) := by decide +kernel
theorem d_Rd_valueOf_92 : decode b_Rd_valueOf 92 = .ok (.lreturn, 1) := by decide +kernel
theorem q_Rd_valueOf : aw_q1 y_Rd_valueOf b_Rd_valueOf 8 (some .long) 3 := ⟨k_705, k_63, ⟨by decide, by decide, by decide +kernel⟩, by decide⟩
def y_Fr_init : MethodName := ⟨"RescanDesk$Front", "<init>", "()V"⟩
abbrev b_Fr_init : ByteArray := prog_9_method_1_code
theorem d_Fr_init_0 : decode b_Fr_init 0 = .ok (.aload_n 0, 1) := by decide +kernel
theorem d_Fr_init_1 : decode b_Fr_init 1 = .ok (.invokespecial 3, 3) := by decide +kernel
theorem d_Fr_init_4 : decode b_Fr_init 4 = .ok (.aload_n 0, 1) := by decide +kernel
theorem d_Fr_init_5 : decode b_Fr_init 5 = .ok (.sipush 600, 3) := by decide +kernel
theorem d_Fr_init_8 : decode b_Fr_init 8 = .ok (.newarray .char, 2) := by decide +kernel
theorem d_Fr_init_10 : decode b_Fr_init 10 = .ok (.putfield 9, 3) := by decide +kernel
theorem d_Fr_init_13 : decode b_Fr_init 13 = .ok (.aload_n 0, 1) := by decide +kernel
theorem d_Fr_init_14 : decode b_Fr_init 14 = .ok (.sipush 600, 3) := by decide +kernel
theorem d_Fr_init_17 : decode b_Fr_init 17 = .ok (.putfield 15, 3) := by decide +kernel
theorem d_Fr_init_20 : decode b_Fr_init 20 = .ok (.return_, 1) := by decide +kernel
theorem q_Fr_init : aw_q1 y_Fr_init b_Fr_init 1 none 0 := ⟨k_130, k_65, ⟨by decide, by decide, by decide +kernel⟩, by decide⟩
def y_Fr_length : MethodName := ⟨"RescanDesk$Front", "length", "()I"⟩
abbrev b_Fr_length : ByteArray := prog_9_method_2_code
theorem d_Fr_length_0 : decode b_Fr_length 0 = .ok (.sipush 600, 3) := by decide +kernel
theorem d_Fr_length_3 : decode b_Fr_length 3 = .ok (.aload_n 0, 1) := by decide +kernel
theorem d_Fr_length_4 : decode b_Fr_length 4 = .ok (.getfield 15, 3) := by decide +kernel
theorem d_Fr_length_7 : decode b_Fr_length 7 = .ok (.isub, 1) := by decide +kernel
theorem d_Fr_length_8 : decode b_Fr_length 8 = .ok (.ireturn, 1) := by decide +kernel
theorem q_Fr_length : aw_q1 y_Fr_length b_Fr_length 1 (some .int) 0 := ⟨k_426, k_65, ⟨by decide, by decide, by decide +kernel⟩, by decide⟩
def y_Fr_load : MethodName := ⟨"RescanDesk$Front", "load", "(LRescanDesk$Text;)V"⟩
abbrev b_Fr_load : ByteArray := prog_9_method_3_code
theorem d_Fr_load_0 : decode b_Fr_load 0 = .ok (.aload_n 0, 1) := by decide +kernel
theorem d_Fr_load_1 : decode b_Fr_load 1 = .ok (.sipush 600, 3) := by decide +kernel
theorem d_Fr_load_4 : decode b_Fr_load 4 = .ok (.putfield 15, 3) := by decide +kernel
theorem d_Fr_load_7 : decode b_Fr_load 7 = .ok (.aload_n 0, 1) := by decide +kernel
theorem d_Fr_load_8 : decode b_Fr_load 8 = .ok (.aload_n 1, 1) := by decide +kernel
theorem d_Fr_load_9 : decode b_Fr_load 9 = .ok (.invokevirtual 19, 3) := by decide +kernel
theorem d_Fr_load_12 : decode b_Fr_load 12 = .ok (.pop, 1) := by decide +kernel
theorem d_Fr_load_13 : decode b_Fr_load 13 = .ok (.return_, 1) := by decide +kernel
theorem q_Fr_load : aw_q1 y_Fr_load b_Fr_load 2 none 1 := ⟨k_504, k_65, ⟨by decide, by decide, by decide +kernel⟩, by decide⟩
def y_Fr_putBefore : MethodName := ⟨"RescanDesk$Front", "putBefore", "(LRescanDesk$Text;)Z"⟩
abbrev b_Fr_putBefore : ByteArray := prog_9_method_4_code
theorem d_Fr_putBefore_0 : decode b_Fr_putBefore 0 = .ok (.aload_n 1, 1) := by decide +kernel
theorem d_Fr_putBefore_1 : decode b_Fr_putBefore 1 = .ok (.getfield 23, 3) := by decide +kernel
theorem d_Fr_putBefore_4 : decode b_Fr_putBefore 4 = .ok (.aload_n 0, 1) := by decide +kernel
theorem d_Fr_putBefore_5 : decode b_Fr_putBefore 5 = .ok (.getfield 15, 3) := by decide +kernel
theorem d_Fr_putBefore_8 : decode b_Fr_putBefore 8 = .ok (.if_icmp .le 5, 3) := by decide +kernel
theorem d_Fr_putBefore_11 : decode b_Fr_putBefore 11 = .ok (.iconst 0, 1) := by decide +kernel
theorem d_Fr_putBefore_12 : decode b_Fr_putBefore 12 = .ok (.ireturn, 1) := by decide +kernel
theorem d_Fr_putBefore_13 : decode b_Fr_putBefore 13 = .ok (.aload_n 0, 1) := by decide +kernel
theorem d_Fr_putBefore_14 : decode b_Fr_putBefore 14 = .ok (.dup, 1) := by decide +kernel
theorem d_Fr_putBefore_15 : decode b_Fr_putBefore 15 = .ok (.getfield 15, 3) := by decide +kernel
theorem d_Fr_putBefore_18 : decode b_Fr_putBefore 18 = .ok (.aload_n 1, 1) := by decide +kernel
theorem d_Fr_putBefore_19 : decode b_Fr_putBefore 19 = .ok (.getfield 23, 3) := by decide +kernel
theorem d_Fr_putBefore_22 : decode b_Fr_putBefore 22 = .ok (.isub, 1) := by decide +kernel
theorem d_Fr_putBefore_23 : decode b_Fr_putBefore 23 = .ok (.putfield 15, 3) := by decide +kernel
theorem d_Fr_putBefore_26 : decode b_Fr_putBefore 26 = .ok (.aload_n 1, 1) := by decide +kernel
theorem d_Fr_putBefore_27 : decode b_Fr_putBefore 27 = .ok (.getfield 28, 3) := by decide +kernel
theorem d_Fr_putBefore_30 : decode b_Fr_putBefore 30 = .ok (.iconst 0, 1) := by decide +kernel
theorem d_Fr_putBefore_31 : decode b_Fr_putBefore 31 = .ok (.aload_n 0, 1) := by decide +kernel
theorem d_Fr_putBefore_32 : decode b_Fr_putBefore 32 = .ok (.getfield 9, 3) := by decide +kernel
theorem d_Fr_putBefore_35 : decode b_Fr_putBefore 35 = .ok (.aload_n 0, 1) := by decide +kernel
theorem d_Fr_putBefore_36 : decode b_Fr_putBefore 36 = .ok (.getfield 15, 3) := by decide +kernel
theorem d_Fr_putBefore_39 : decode b_Fr_putBefore 39 = .ok (.aload_n 1, 1) := by decide +kernel
theorem d_Fr_putBefore_40 : decode b_Fr_putBefore 40 = .ok (.getfield 23, 3) := by decide +kernel
theorem d_Fr_putBefore_43 : decode b_Fr_putBefore 43 = .ok (.invokestatic 29, 3) := by decide +kernel
theorem d_Fr_putBefore_46 : decode b_Fr_putBefore 46 = .ok (.iconst 1, 1) := by decide +kernel
theorem d_Fr_putBefore_47 : decode b_Fr_putBefore 47 = .ok (.ireturn, 1) := by decide +kernel
theorem q_Fr_putBefore : aw_q1 y_Fr_putBefore b_Fr_putBefore 2 (some .boolean) 1 := ⟨k_508, k_65, ⟨by decide, by decide, by decide +kernel⟩, by decide⟩
def y_Fr_closingQuote : MethodName := ⟨"RescanDesk$Front", "closingQuote", "()I"⟩
abbrev b_Fr_closingQuote : ByteArray := prog_9_method_5_code
theorem d_Fr_closingQuote_0 : decode b_Fr_closingQuote 0 = .ok (.iconst 0, 1) := by decide +kernel
theorem d_Fr_closingQuote_1 : decode b_Fr_closingQuote 1 = .ok (.istore_n 1, 1) := by decide +kernel
theorem d_Fr_closingQuote_2 : decode b_Fr_closingQuote 2 = .ok (.aload_n 0, 1) := by decide +kernel
theorem d_Fr_closingQuote_3 : decode b_Fr_closingQuote 3 = .ok (.getfield 15, 3) := by decide +kernel
theorem d_Fr_closingQuote_6 : decode b_Fr_closingQuote 6 = .ok (.istore_n 2, 1) := by decide +kernel
theorem d_Fr_closingQuote_7 : decode b_Fr_closingQuote 7 = .ok (.iload_n 2, 1) := by decide +kernel
theorem d_Fr_closingQuote_8 : decode b_Fr_closingQuote 8 = .ok (.sipush 600, 3) := by decide +kernel
theorem d_Fr_closingQuote_11 : decode b_Fr_closingQuote 11 = .ok (.if_icmp .ge 46, 3) := by decide +kernel
theorem d_Fr_closingQuote_14 : decode b_Fr_closingQuote 14 = .ok (.aload_n 0, 1) := by decide +kernel
theorem d_Fr_closingQuote_15 : decode b_Fr_closingQuote 15 = .ok (.getfield 9, 3) := by decide +kernel
theorem d_Fr_closingQuote_18 : decode b_Fr_closingQuote 18 = .ok (.iload_n 2, 1) := by decide +kernel
theorem d_Fr_closingQuote_19 : decode b_Fr_closingQuote 19 = .ok (.caload, 1) := by decide +kernel
theorem d_Fr_closingQuote_20 : decode b_Fr_closingQuote 20 = .ok (.bipush 96, 2) := by decide +kernel
theorem d_Fr_closingQuote_22 : decode b_Fr_closingQuote 22 = .ok (.if_icmp .ne 9, 3) := by decide +kernel
theorem d_Fr_closingQuote_25 : decode b_Fr_closingQuote 25 = .ok (.iinc 1 1, 3) := by decide +kernel
theorem d_Fr_closingQuote_28 : decode b_Fr_closingQuote 28 = .ok (.goto 23, 3) := by decide +kernel
theorem d_Fr_closingQuote_31 : decode b_Fr_closingQuote 31 = .ok (.aload_n 0, 1) := by decide +kernel
theorem d_Fr_closingQuote_32 : decode b_Fr_closingQuote 32 = .ok (.getfield 9, 3) := by decide +kernel
theorem d_Fr_closingQuote_35 : decode b_Fr_closingQuote 35 = .ok (.iload_n 2, 1) := by decide +kernel
theorem d_Fr_closingQuote_36 : decode b_Fr_closingQuote 36 = .ok (.caload, 1) := by decide +kernel
theorem d_Fr_closingQuote_37 : decode b_Fr_closingQuote 37 = .ok (.bipush 39, 2) := by decide +kernel
theorem d_Fr_closingQuote_39 : decode b_Fr_closingQuote 39 = .ok (.if_icmp .ne 12, 3) := by decide +kernel
theorem d_Fr_closingQuote_42 : decode b_Fr_closingQuote 42 = .ok (.iinc 1 (-1), 3) := by decide +kernel
theorem d_Fr_closingQuote_45 : decode b_Fr_closingQuote 45 = .ok (.iload_n 1, 1) := by decide +kernel
theorem d_Fr_closingQuote_46 : decode b_Fr_closingQuote 46 = .ok (.ifCond .ne 5, 3) := by decide +kernel
theorem d_Fr_closingQuote_49 : decode b_Fr_closingQuote 49 = .ok (.iload_n 2, 1) := by decide +kernel
theorem d_Fr_closingQuote_50 : decode b_Fr_closingQuote 50 = .ok (.ireturn, 1) := by decide +kernel
theorem d_Fr_closingQuote_51 : decode b_Fr_closingQuote 51 = .ok (.iinc 2 1, 3) := by decide +kernel
theorem d_Fr_closingQuote_54 : decode b_Fr_closingQuote 54 = .ok (.goto (-47), 3) := by decide +kernel
theorem d_Fr_closingQuote_57 : decode b_Fr_closingQuote 57 = .ok (.iconst (-1), 1) := by decide +kernel
theorem d_Fr_closingQuote_58 : decode b_Fr_closingQuote 58 = .ok (.ireturn, 1) := by decide +kernel
theorem q_Fr_closingQuote : aw_q1 y_Fr_closingQuote b_Fr_closingQuote 3 (some .int) 0 := ⟨k_533, k_65, ⟨by decide, by decide, by decide +kernel⟩, by decide⟩
def y_Fr_takeLine : MethodName := ⟨"RescanDesk$Front", "takeLine", "()V"⟩
abbrev b_Fr_takeLine : ByteArray := prog_9_method_6_code
theorem d_Fr_takeLine_0 : decode b_Fr_takeLine 0 = .ok (.aload_n 0, 1) := by decide +kernel
theorem d_Fr_takeLine_1 : decode b_Fr_takeLine 1 = .ok (.getfield 15, 3) := by decide +kernel
theorem d_Fr_takeLine_4 : decode b_Fr_takeLine 4 = .ok (.sipush 600, 3) := by decide +kernel
theorem d_Fr_takeLine_7 : decode b_Fr_takeLine 7 = .ok (.if_icmp .ge 30, 3) := by decide +kernel
theorem d_Fr_takeLine_10 : decode b_Fr_takeLine 10 = .ok (.aload_n 0, 1) := by decide +kernel
theorem d_Fr_takeLine_11 : decode b_Fr_takeLine 11 = .ok (.getfield 9, 3) := by decide +kernel
theorem d_Fr_takeLine_14 : decode b_Fr_takeLine 14 = .ok (.aload_n 0, 1) := by decide +kernel
theorem d_Fr_takeLine_15 : decode b_Fr_takeLine 15 = .ok (.getfield 15, 3) := by decide +kernel
theorem d_Fr_takeLine_18 : decode b_Fr_takeLine 18 = .ok (.caload, 1) := by decide +kernel
theorem d_Fr_takeLine_19 : decode b_Fr_takeLine 19 = .ok (.bipush 10, 2) := by decide +kernel
theorem d_Fr_takeLine_21 : decode b_Fr_takeLine 21 = .ok (.if_icmp .eq 16, 3) := by decide +kernel
theorem d_Fr_takeLine_24 : decode b_Fr_takeLine 24 = .ok (.aload_n 0, 1) := by decide +kernel
theorem d_Fr_takeLine_25 : decode b_Fr_takeLine 25 = .ok (.dup, 1) := by decide +kernel
theorem d_Fr_takeLine_26 : decode b_Fr_takeLine 26 = .ok (.getfield 15, 3) := by decide +kernel
theorem d_Fr_takeLine_29 : decode b_Fr_takeLine 29 = .ok (.iconst 1, 1) := by decide +kernel
theorem d_Fr_takeLine_30 : decode b_Fr_takeLine 30 = .ok (.iadd, 1) := by decide +kernel
theorem d_Fr_takeLine_31 : decode b_Fr_takeLine 31 = .ok (.putfield 15, 3) := by decide +kernel
theorem d_Fr_takeLine_34 : decode b_Fr_takeLine 34 = .ok (.goto (-34), 3) := by decide +kernel
theorem d_Fr_takeLine_37 : decode b_Fr_takeLine 37 = .ok (.aload_n 0, 1) := by decide +kernel
theorem d_Fr_takeLine_38 : decode b_Fr_takeLine 38 = .ok (.getfield 15, 3) := by decide +kernel
theorem d_Fr_takeLine_41 : decode b_Fr_takeLine 41 = .ok (.sipush 600, 3) := by decide +kernel
theorem d_Fr_takeLine_44 : decode b_Fr_takeLine 44 = .ok (.if_icmp .ge 13, 3) := by decide +kernel
theorem d_Fr_takeLine_47 : decode b_Fr_takeLine 47 = .ok (.aload_n 0, 1) := by decide +kernel
theorem d_Fr_takeLine_48 : decode b_Fr_takeLine 48 = .ok (.dup, 1) := by decide +kernel
theorem d_Fr_takeLine_49 : decode b_Fr_takeLine 49 = .ok (.getfield 15, 3) := by decide +kernel
theorem d_Fr_takeLine_52 : decode b_Fr_takeLine 52 = .ok (.iconst 1, 1) := by decide +kernel
theorem d_Fr_takeLine_53 : decode b_Fr_takeLine 53 = .ok (.iadd, 1) := by decide +kernel
theorem d_Fr_takeLine_54 : decode b_Fr_takeLine 54 = .ok (.putfield 15, 3) := by decide +kernel
theorem d_Fr_takeLine_57 : decode b_Fr_takeLine 57 = .ok (.return_, 1) := by decide +kernel
theorem q_Fr_takeLine : aw_q1 y_Fr_takeLine b_Fr_takeLine 1 none 0 := ⟨k_734, k_65, ⟨by decide, by decide, by decide +kernel⟩, by decide⟩
theorem aw_up_up (w : Nat → va_E) (a : Nat) (x y : va_E) : aw_up (aw_up w a x) a y = aw_up w a y := by
  funext q
  simp only [aw_up_if]
  by_cases h : q = a
  · simp [h]
  · simp [h]
theorem aw_up_self {w : Nat → va_E} {a : Nat} {x : va_E} (h : w a = x) : aw_up w a x = w := by
  funext q
  simp only [aw_up_if]
  by_cases h2 : q = a
  · simp [h2, h]
  · simp [h2]
theorem bN_ne {p : Bool} : bN p ≠ 0 ↔ p = true := by cases p <;> simp [bN]
theorem bN_eq {p : Bool} : bN p = 0 ↔ p = false := by cases p <;> simp [bN]
theorem bN_lt (p : Bool) : bN p < 2 ^ 31 := by cases p <;> simp [bN]
theorem bN_le (p : Bool) : bN p < 2 := by cases p <;> simp [bN]
theorem sl_0 (g : Nat → Nat) (s : Nat) : sl g s 0 = [] := rfl
theorem sl_cons (g : Nat → Nat) (s n : Nat) : sl g s (n + 1) = g s :: sl g (s + 1) n := by
  apply List.ext_getElem?
  intro i
  cases i with
  | zero => simp [sl]
  | succ i =>
    by_cases h : i < n
    · rw [sl_get (by omega), List.getElem?_cons_succ, sl_get h, show s + (i + 1) = s + 1 + i by omega]
    · rw [List.getElem?_eq_none_iff.mpr (by rw [sl_len]; omega), List.getElem?_cons_succ, List.getElem?_eq_none_iff.mpr (by rw [sl_len]; omega)]
def isLet (c : Nat) : Bool := decide (97 ≤ c ∧ c ≤ 122 ∨ 65 ≤ c ∧ c ≤ 90 ∨ c = 95)
def isDig (c : Nat) : Bool := decide (48 ≤ c ∧ c ≤ 57)
def isBlk (c : Nat) : Bool := decide (c = 32 ∨ c = 10)
def isLD (c : Nat) : Bool := isLet c || isDig c
/-- how long a name the text begins with -/
def nmLen (L : List Nat) : Nat := match L with
  | [] => 0
  | c :: r => if isLet c = true then 1 + (r.takeWhile isLD).length else 0
def isNm (L : List Nat) : Bool := !L.isEmpty && decide (nmLen L = L.length)
def valD : Int64 → List Nat → Option Int64
  | a, [] => some a
  | a, c :: r => if isDig c = true then valD (a * 10 + lN (c - 48)) r else none
def valF (bl : Nat) (o : Option Int64) : Int64 := match o with
  | none => 0
  | some v => if bl = 0 then v else -v
/-- the number that a text says -/
def valL (L : List Nat) : Int64 := match L with
  | [] => 0
  | c :: r => if c = 45 then valF 1 (valD 0 r) else valF 0 (valD 0 (c :: r))
section
variable {G : aw_G} {nx d : Nat} {w : Nat → va_E}
theorem c_Rd_isLetter {c : Nat} (hc : c < 65536) : AC G y_Rd_isLetter b_Rd_isLetter 1 (some .boolean) d false [.int (nI c)] nx w 0 0 (fun r w' nx' => nx' = nx ∧ w' = w ∧ r = some (.int (nI (bN (isLet c))))) := by
  have t1 : ∀ q : Prop, (97 ≤ c ∧ c ≤ 122 ∨ 65 ≤ c ∧ c ≤ 90 ∨ c = 95) → isLet c = true := fun _ h => decide_eq_true h
  have t2 : ∀ q : Prop, ¬ (97 ≤ c ∧ c ≤ 122 ∨ 65 ≤ c ∧ c ≤ 90 ∨ c = 95) → isLet c = false := fun _ h => decide_eq_false h
  refine AC.ofW (by decide) (Nat.le_of_ble_eq_true rfl) ?_
  intro E P hP Y X
  have X : aw_X G "RescanDesk" b_Rd_isLetter 1 (some .boolean) "isLetter" _ _ _ _ _ E := X
  refine AW.eql (lv' := [(0, _)]) (by rfl) ?_
  have Lt : isLet c = true → AW G E 1 nx 0 0 w 30 [(0, .int (nI c))] [] := fun h => by
    refine aw_iconstN (pc := 30) X 1 d_Rd_isLetter_30 (by decide) ?_
    refine aw_goto (pc := 31) X (tgt := 35) d_Rd_isLetter_31 (by rfl) ?_
    refine aw_zret Y X rfl (by decide +kernel) d_Rd_isLetter_35 (by omega) (by omega) (hP _ _ _ ?_)
    -- ret 35 lv=0:n st=n
    exact ⟨rfl, rfl, by rw [h]; rfl⟩
  have Lf : isLet c = false → AW G E 1 nx 0 0 w 34 [(0, .int (nI c))] [] := fun h => by
    refine aw_iconstN (pc := 34) X 0 d_Rd_isLetter_34 (by decide) ?_
    refine aw_zret Y X rfl (by decide +kernel) d_Rd_isLetter_35 (by omega) (by omega) (hP _ _ _ ?_)
    -- ret 35 lv=0:n st=n
    exact ⟨rfl, rfl, by rw [h]; rfl⟩
  have L24 : ¬ (97 ≤ c ∧ c ≤ 122 ∨ 65 ≤ c ∧ c ≤ 90) → AW G E 1 nx 0 0 w 24 [(0, .int (nI c))] [] := fun h => by
    refine aw_iload_n (pc := 24) X d_Rd_isLetter_24 (by rfl) ?_
    refine aw_bipushN (pc := 25) X 95 d_Rd_isLetter_25 (by decide) ?_
    refine aw_icmp_neN (pc := 27) X (tgt := 34) d_Rd_isLetter_27 (by rfl) (by omega) (by omega) (fun h27 => ?_) (fun h27 => ?_)
    -- br 27 lv=0:n st=
    · exact Lf (t2 True (by omega))
    · exact Lt (t1 True (by omega))
  have L12 : ¬ (97 ≤ c ∧ c ≤ 122) → AW G E 1 nx 0 0 w 12 [(0, .int (nI c))] [] := fun h => by
    refine aw_iload_n (pc := 12) X d_Rd_isLetter_12 (by rfl) ?_
    refine aw_bipushN (pc := 13) X 65 d_Rd_isLetter_13 (by decide) ?_
    refine aw_icmp_ltN (pc := 15) X (tgt := 24) d_Rd_isLetter_15 (by rfl) (by omega) (by omega) (fun h15 => ?_) (fun h15 => ?_)
    -- br 15 lv=0:n st=
    · exact L24 (by omega)
    · refine aw_iload_n (pc := 18) X d_Rd_isLetter_18 (by rfl) ?_
      refine aw_bipushN (pc := 19) X 90 d_Rd_isLetter_19 (by decide) ?_
      refine aw_icmp_leN (pc := 21) X (tgt := 30) d_Rd_isLetter_21 (by rfl) (by omega) (by omega) (fun h21 => ?_) (fun h21 => ?_)
      -- br 21 lv=0:n st=
      · exact Lt (t1 True (by omega))
      · exact L24 (by omega)
  refine aw_iload_n (pc := 0) X d_Rd_isLetter_0 (by rfl) ?_
  refine aw_bipushN (pc := 1) X 97 d_Rd_isLetter_1 (by decide) ?_
  refine aw_icmp_ltN (pc := 3) X (tgt := 12) d_Rd_isLetter_3 (by rfl) (by omega) (by omega) (fun h3 => ?_) (fun h3 => ?_)
  -- br 3 lv=0:n st=
  · exact L12 (by omega)
  · refine aw_iload_n (pc := 6) X d_Rd_isLetter_6 (by rfl) ?_
    refine aw_bipushN (pc := 7) X 122 d_Rd_isLetter_7 (by decide) ?_
    refine aw_icmp_leN (pc := 9) X (tgt := 30) d_Rd_isLetter_9 (by rfl) (by omega) (by omega) (fun h9 => ?_) (fun h9 => ?_)
    -- br 9 lv=0:n st=
    · exact Lt (t1 True (by omega))
    · exact L12 (by omega)
theorem c_Rd_isDigit {c : Nat} (hc : c < 65536) : AC G y_Rd_isDigit b_Rd_isDigit 1 (some .boolean) d false [.int (nI c)] nx w 0 0 (fun r w' nx' => nx' = nx ∧ w' = w ∧ r = some (.int (nI (bN (isDig c))))) := by
  refine AC.ofW (by decide) (Nat.le_of_ble_eq_true rfl) ?_
  intro E P hP Y X
  have X : aw_X G "RescanDesk" b_Rd_isDigit 1 (some .boolean) "isDigit" _ _ _ _ _ E := X
  refine AW.eql (lv' := [(0, _)]) (by rfl) ?_
  refine aw_iload_n (pc := 0) X d_Rd_isDigit_0 (by rfl) ?_
  refine aw_bipushN (pc := 1) X 48 d_Rd_isDigit_1 (by decide) ?_
  refine aw_icmp_ltN (pc := 3) X (tgt := 16) d_Rd_isDigit_3 (by rfl) (by omega) (by omega) (fun h3 => ?_) (fun h3 => ?_)
  -- br 3 lv=0:n st=
  · refine aw_iconstN (pc := 16) X 0 d_Rd_isDigit_16 (by decide) ?_
    refine aw_zret Y X rfl (by decide +kernel) d_Rd_isDigit_17 (by omega) (by omega) (hP _ _ _ ?_)
    -- ret 17 lv=0:n st=n
    exact ⟨rfl, rfl, by rw [show isDig c = false from decide_eq_false (by omega)]; rfl⟩
  · refine aw_iload_n (pc := 6) X d_Rd_isDigit_6 (by rfl) ?_
    refine aw_bipushN (pc := 7) X 57 d_Rd_isDigit_7 (by decide) ?_
    refine aw_icmp_gtN (pc := 9) X (tgt := 16) d_Rd_isDigit_9 (by rfl) (by omega) (by omega) (fun h9 => ?_) (fun h9 => ?_)
    -- br 9 lv=0:n st=
    · refine aw_iconstN (pc := 16) X 0 d_Rd_isDigit_16 (by decide) ?_
      refine aw_zret Y X rfl (by decide +kernel) d_Rd_isDigit_17 (by omega) (by omega) (hP _ _ _ ?_)
      -- ret 17 lv=0:n st=n
      exact ⟨rfl, rfl, by rw [show isDig c = false from decide_eq_false (by omega)]; rfl⟩
    · refine aw_iconstN (pc := 12) X 1 d_Rd_isDigit_12 (by decide) ?_
      refine aw_goto (pc := 13) X (tgt := 17) d_Rd_isDigit_13 (by rfl) ?_
      refine aw_zret Y X rfl (by decide +kernel) d_Rd_isDigit_17 (by omega) (by omega) (hP _ _ _ ?_)
      -- ret 17 lv=0:n st=n
      exact ⟨rfl, rfl, by rw [show isDig c = true from decide_eq_true (by omega)]; rfl⟩
theorem c_Rd_isBlank {c : Nat} (hc : c < 65536) : AC G y_Rd_isBlank b_Rd_isBlank 1 (some .boolean) d false [.int (nI c)] nx w 0 0 (fun r w' nx' => nx' = nx ∧ w' = w ∧ r = some (.int (nI (bN (isBlk c))))) := by
  refine AC.ofW (by decide) (Nat.le_of_ble_eq_true rfl) ?_
  intro E P hP Y X
  have X : aw_X G "RescanDesk" b_Rd_isBlank 1 (some .boolean) "isBlank" _ _ _ _ _ E := X
  refine AW.eql (lv' := [(0, _)]) (by rfl) ?_
  refine aw_iload_n (pc := 0) X d_Rd_isBlank_0 (by rfl) ?_
  refine aw_bipushN (pc := 1) X 32 d_Rd_isBlank_1 (by decide) ?_
  refine aw_icmp_eqN (pc := 3) X (tgt := 12) d_Rd_isBlank_3 (by rfl) (by omega) (by omega) (fun h3 => ?_) (fun h3 => ?_)
  -- br 3 lv=0:n st=
  · refine aw_iconstN (pc := 12) X 1 d_Rd_isBlank_12 (by decide) ?_
    refine aw_goto (pc := 13) X (tgt := 17) d_Rd_isBlank_13 (by rfl) ?_
    refine aw_zret Y X rfl (by decide +kernel) d_Rd_isBlank_17 (by omega) (by omega) (hP _ _ _ ?_)
    -- ret 17 lv=0:n st=n
    exact ⟨rfl, rfl, by rw [show isBlk c = true from decide_eq_true (by omega)]; rfl⟩
  · refine aw_iload_n (pc := 6) X d_Rd_isBlank_6 (by rfl) ?_
    refine aw_bipushN (pc := 7) X 10 d_Rd_isBlank_7 (by decide) ?_
    refine aw_icmp_neN (pc := 9) X (tgt := 16) d_Rd_isBlank_9 (by rfl) (by omega) (by omega) (fun h9 => ?_) (fun h9 => ?_)
    -- br 9 lv=0:n st=
    · refine aw_iconstN (pc := 16) X 0 d_Rd_isBlank_16 (by decide) ?_
      refine aw_zret Y X rfl (by decide +kernel) d_Rd_isBlank_17 (by omega) (by omega) (hP _ _ _ ?_)
      -- ret 17 lv=0:n st=n
      exact ⟨rfl, rfl, by rw [show isBlk c = false from decide_eq_false (by omega)]; rfl⟩
    · refine aw_iconstN (pc := 12) X 1 d_Rd_isBlank_12 (by decide) ?_
      refine aw_goto (pc := 13) X (tgt := 17) d_Rd_isBlank_13 (by rfl) ?_
      refine aw_zret Y X rfl (by decide +kernel) d_Rd_isBlank_17 (by omega) (by omega) (hP _ _ _ ?_)
      -- ret 17 lv=0:n st=n
      exact ⟨rfl, rfl, by rw [show isBlk c = true from decide_eq_true (by omega)]; rfl⟩
/-- nameEnd(chars, s, t) -/
theorem c_Rd_nameEnd {q l s t : Nat} {f : Nat → Nat} (hq : q < nx) (hd : 1 ≤ d) (hl : l < 2 ^ 20) (hst : s ≤ t) (htl : t ≤ l) (hf : ∀ j, f j < 65536) (h3 : w q = aCh G l f) : AC G y_Rd_nameEnd b_Rd_nameEnd 4 (some .int) d false [rf G q, .int (nI s), .int (nI t)] nx w 0 0 (fun r w' nx' => nx' = nx ∧ w' = w ∧ r = some (.int (nI (s + nmLen (sl f s (t - s)))))) := by
  refine AC.ofW (by decide) (Nat.le_of_ble_eq_true rfl) ?_
  intro E P hP Y X
  have X : aw_X G "RescanDesk" b_Rd_nameEnd 4 (some .int) "nameEnd" _ _ _ _ _ E := X
  refine AW.eql (lv' := [(0, _), (1, _), (2, _)]) (by rfl) ?_
  have L : ∀ (k i : Nat), i + k = t → s < t → isLet (f s) = true → i + ((sl f i k).takeWhile isLD).length = s + nmLen (sl f s (t - s)) → AW G E 4 nx 0 0 w 20 [(3, .int (nI i)), (0, rf G q), (1, .int (nI s)), (2, .int (nI t))] [] := by
    intro k
    induction k with
    | zero =>
      intro i hi hs hle hr
      refine aw_iload_n (pc := 20) X d_Rd_nameEnd_20 (by rfl) ?_
      refine aw_iload_n (pc := 21) X d_Rd_nameEnd_21 (by rfl) ?_
      refine aw_icmp_geN (pc := 22) X (tgt := 49) d_Rd_nameEnd_22 (by rfl) (by omega) (by omega) (fun h22 => ?_) (fun h22 => ?_)
      -- br 22 lv=3:n,0:r,1:n,2:n st=
      · refine aw_iload_n (pc := 49) X d_Rd_nameEnd_49 (by rfl) ?_
        refine aw_iret Y X rfl d_Rd_nameEnd_50 (by omega) (by omega) (hP _ _ _ ?_)
        -- ret 50 lv=3:n,0:r,1:n,2:n st=n
        exact ⟨rfl, rfl, by rw [← hr]; rfl⟩
      · omega
    | succ k ih =>
      intro i hi hs hle hr
      have hfi := hf i
      rw [sl_cons] at hr
      refine aw_iload_n (pc := 20) X d_Rd_nameEnd_20 (by rfl) ?_
      refine aw_iload_n (pc := 21) X d_Rd_nameEnd_21 (by rfl) ?_
      refine aw_icmp_geN (pc := 22) X (tgt := 49) d_Rd_nameEnd_22 (by rfl) (by omega) (by omega) (fun h22 => ?_) (fun h22 => ?_)
      -- br 22 lv=3:n,0:r,1:n,2:n st=
      · omega
      · refine aw_aload_nR (pc := 25) X d_Rd_nameEnd_25 (by rfl) ?_
        refine aw_iload_n (pc := 26) X d_Rd_nameEnd_26 (by rfl) ?_
        refine aw_caldN (pc := 27) X _ 0 (by omega) (by (repeat (first | rw [aw_up_eq] | rw [aw_up_ne _ _ (by first | assumption | omega)])) <;> first | assumption | rfl) (by rfl) (by omega) (by omega) d_Rd_nameEnd_27 ?_
        -- invokestatic 28 lv=3:n,0:r,1:n,2:n st=n
        refine aw_callS (pc := 28) X (c_Rd_isLetter (d := 0) hfi) q_Rd_isLetter k_554 k_555 d_Rd_nameEnd_28 (by omega) (Nat.le_of_ble_eq_true rfl) ⟨by omega, by omega⟩ (fun h => by cases h) (fun r w' nx' hp => ?_)
        obtain ⟨rfl, rfl, rfl⟩ := hp
        have hb := bN_lt (isLet (f i))
        refine aw_if_neN (pc := 31) X (tgt := 43) d_Rd_nameEnd_31 (by rfl) (by omega) (fun h31 => ?_) (fun h31 => ?_)
        -- br 31 lv=3:n,0:r,1:n,2:n st=
        · have hL : isLD (f i) = true := by simp [isLD, bN_ne.mp h31]
          rw [List.takeWhile_cons_of_pos hL, List.length_cons] at hr
          refine aw_iincN (pc := 43) X 1 (lv' := [(3, _), (0, _), (1, _), (2, _)]) d_Rd_nameEnd_43 (by rfl) (by decide) (by decide) (by rfl) ?_
          refine aw_goto (pc := 46) X (tgt := 20) d_Rd_nameEnd_46 (by rfl) ?_
          -- stop 20 lv=3:n,0:r,1:n,2:n st=
          exact ih (i + 1) (by omega) hs hle (by omega)
        · refine aw_aload_nR (pc := 34) X d_Rd_nameEnd_34 (by rfl) ?_
          refine aw_iload_n (pc := 35) X d_Rd_nameEnd_35 (by rfl) ?_
          refine aw_caldN (pc := 36) X _ 0 (by omega) (by (repeat (first | rw [aw_up_eq] | rw [aw_up_ne _ _ (by first | assumption | omega)])) <;> first | assumption | rfl) (by rfl) (by omega) (by omega) d_Rd_nameEnd_36 ?_
          -- invokestatic 37 lv=3:n,0:r,1:n,2:n st=n
          refine aw_callS (pc := 37) X (c_Rd_isDigit (d := 0) hfi) q_Rd_isDigit k_564 k_565 d_Rd_nameEnd_37 (by omega) (Nat.le_of_ble_eq_true rfl) ⟨by omega, by omega⟩ (fun h => by cases h) (fun r w' nx' hp => ?_)
          obtain ⟨rfl, rfl, rfl⟩ := hp
          have hb := bN_lt (isDig (f i))
          refine aw_if_eqN (pc := 40) X (tgt := 49) d_Rd_nameEnd_40 (by rfl) (by omega) (fun h40 => ?_) (fun h40 => ?_)
          -- br 40 lv=3:n,0:r,1:n,2:n st=
          · have hL : ¬ isLD (f i) = true := by simp [isLD, bN_eq.mp h31, bN_eq.mp h40]
            rw [List.takeWhile_cons_of_neg hL] at hr
            refine aw_iload_n (pc := 49) X d_Rd_nameEnd_49 (by rfl) ?_
            refine aw_iret Y X rfl d_Rd_nameEnd_50 (by omega) (by omega) (hP _ _ _ ?_)
            -- ret 50 lv=3:n,0:r,1:n,2:n st=n
            exact ⟨rfl, rfl, by rw [← hr]; rfl⟩
          · have hL : isLD (f i) = true := by simp [isLD, bN_ne.mp h40]
            rw [List.takeWhile_cons_of_pos hL, List.length_cons] at hr
            refine aw_iincN (pc := 43) X 1 (lv' := [(3, _), (0, _), (1, _), (2, _)]) d_Rd_nameEnd_43 (by rfl) (by decide) (by decide) (by rfl) ?_
            refine aw_goto (pc := 46) X (tgt := 20) d_Rd_nameEnd_46 (by rfl) ?_
            -- stop 20 lv=3:n,0:r,1:n,2:n st=
            exact ih (i + 1) (by omega) hs hle (by omega)
  refine aw_iload_n (pc := 0) X d_Rd_nameEnd_0 (by rfl) ?_
  refine aw_iload_n (pc := 1) X d_Rd_nameEnd_1 (by rfl) ?_
  refine aw_icmp_geN (pc := 2) X (tgt := 14) d_Rd_nameEnd_2 (by rfl) (by omega) (by omega) (fun h2 => ?_) (fun h2 => ?_)
  -- br 2 lv=0:r,1:n,2:n st=
  · refine aw_iload_n (pc := 14) X d_Rd_nameEnd_14 (by rfl) ?_
    refine aw_iret Y X rfl d_Rd_nameEnd_15 (by omega) (by omega) (hP _ _ _ ?_)
    -- ret 15 lv=0:r,1:n,2:n st=n
    exact ⟨rfl, rfl, by rw [show t - s = 0 by omega]; rfl⟩
  · have hfi := hf s
    have e : sl f s (t - s) = f s :: sl f (s + 1) (t - s - 1) := by rw [← sl_cons]; congr 1; omega
    refine aw_aload_nR (pc := 5) X d_Rd_nameEnd_5 (by rfl) ?_
    refine aw_iload_n (pc := 6) X d_Rd_nameEnd_6 (by rfl) ?_
    refine aw_caldN (pc := 7) X _ 0 (by omega) (by (repeat (first | rw [aw_up_eq] | rw [aw_up_ne _ _ (by first | assumption | omega)])) <;> first | assumption | rfl) (by rfl) (by omega) (by omega) d_Rd_nameEnd_7 ?_
    -- invokestatic 8 lv=0:r,1:n,2:n st=n
    refine aw_callS (pc := 8) X (c_Rd_isLetter (d := 0) hfi) q_Rd_isLetter k_554 k_555 d_Rd_nameEnd_8 (by omega) (Nat.le_of_ble_eq_true rfl) ⟨by omega, by omega⟩ (fun h => by cases h) (fun r w' nx' hp => ?_)
    obtain ⟨rfl, rfl, rfl⟩ := hp
    have hb := bN_lt (isLet (f s))
    refine aw_if_neN (pc := 11) X (tgt := 16) d_Rd_nameEnd_11 (by rfl) (by omega) (fun h11 => ?_) (fun h11 => ?_)
    -- br 11 lv=0:r,1:n,2:n st=
    · have hL := bN_ne.mp h11
      refine aw_iload_n (pc := 16) X d_Rd_nameEnd_16 (by rfl) ?_
      refine aw_iconstN (pc := 17) X 1 d_Rd_nameEnd_17 (by decide) ?_
      refine aw_iaddN (pc := 18) X d_Rd_nameEnd_18 ?_
      refine aw_istore_n (pc := 19) X (lv' := [(3, _), (0, _), (1, _), (2, _)]) d_Rd_nameEnd_19 (by decide) (by rfl) ?_
      -- stop 20 lv=3:n,0:r,1:n,2:n st=
      exact L (t - s - 1) (s + 1) (by omega) (by omega) hL (by rw [e]; simp [nmLen, hL]; omega)
    · have hL := bN_eq.mp h11
      refine aw_iload_n (pc := 14) X d_Rd_nameEnd_14 (by rfl) ?_
      refine aw_iret Y X rfl d_Rd_nameEnd_15 (by omega) (by omega) (hP _ _ _ ?_)
      -- ret 15 lv=0:r,1:n,2:n st=n
      exact ⟨rfl, rfl, by rw [e]; simp [nmLen, hL]⟩
/-- isName(chars, s, t) -/
theorem c_Rd_isName {q l s t : Nat} {f : Nat → Nat} (hq : q < nx) (hd : 2 ≤ d) (hl : l < 2 ^ 20) (hst : s ≤ t) (htl : t ≤ l) (hf : ∀ j, f j < 65536) (h3 : w q = aCh G l f) : AC G y_Rd_isName b_Rd_isName 3 (some .boolean) d false [rf G q, .int (nI s), .int (nI t)] nx w 0 0 (fun r w' nx' => nx' = nx ∧ w' = w ∧ r = some (.int (nI (bN (isNm (sl f s (t - s))))))) := by
  have hnl : nmLen (sl f s (t - s)) ≤ t - s := by
    unfold nmLen
    cases hs : sl f s (t - s) with
    | nil => simp
    | cons c r =>
      have h1 := sl_len f s (t - s)
      rw [hs] at h1
      simp only
      split
      · have := List.takeWhile_prefix (l := r) isLD
        have := this.length_le
        simp at h1
        omega
      · omega
  refine AC.ofW (by decide) (Nat.le_of_ble_eq_true rfl) ?_
  intro E P hP Y X
  have X : aw_X G "RescanDesk" b_Rd_isName 3 (some .boolean) "isName" _ _ _ _ _ E := X
  refine AW.eql (lv' := [(0, _), (1, _), (2, _)]) (by rfl) ?_
  refine aw_iload_n (pc := 0) X d_Rd_isName_0 (by rfl) ?_
  refine aw_iload_n (pc := 1) X d_Rd_isName_1 (by rfl) ?_
  refine aw_icmp_geN (pc := 2) X (tgt := 19) d_Rd_isName_2 (by rfl) (by omega) (by omega) (fun h2 => ?_) (fun h2 => ?_)
  -- br 2 lv=0:r,1:n,2:n st=
  · refine aw_iconstN (pc := 19) X 0 d_Rd_isName_19 (by decide) ?_
    refine aw_zret Y X rfl (by decide +kernel) d_Rd_isName_20 (by omega) (by omega) (hP _ _ _ ?_)
    -- ret 20 lv=0:r,1:n,2:n st=n
    exact ⟨rfl, rfl, by rw [show t - s = 0 by omega]; rfl⟩
  · refine aw_aload_nR (pc := 5) X d_Rd_isName_5 (by rfl) ?_
    refine aw_iload_n (pc := 6) X d_Rd_isName_6 (by rfl) ?_
    refine aw_iload_n (pc := 7) X d_Rd_isName_7 (by rfl) ?_
    -- invokestatic 8 lv=0:r,1:n,2:n st=n,n,r
    refine aw_callS (pc := 8) X (c_Rd_nameEnd (d := 1) hq (by omega) hl hst htl hf h3) q_Rd_nameEnd k_561 k_562 d_Rd_isName_8 (by omega) (Nat.le_of_ble_eq_true rfl) ⟨by omega, by omega⟩ (fun h => by cases h) (fun r w' nx' hp => ?_)
    obtain ⟨rfl, rfl, rfl⟩ := hp
    have hne : (sl f s (t - s)).isEmpty = false := by
      cases hs : sl f s (t - s) with
      | nil => have h1 := sl_len f s (t - s); rw [hs] at h1; simp at h1; omega
      | cons c r => rfl
    refine aw_iload_n (pc := 11) X d_Rd_isName_11 (by rfl) ?_
    refine aw_icmp_neN (pc := 12) X (tgt := 19) d_Rd_isName_12 (by rfl) (by omega) (by omega) (fun h12 => ?_) (fun h12 => ?_)
    -- br 12 lv=0:r,1:n,2:n st=
    · refine aw_iconstN (pc := 19) X 0 d_Rd_isName_19 (by decide) ?_
      refine aw_zret Y X rfl (by decide +kernel) d_Rd_isName_20 (by omega) (by omega) (hP _ _ _ ?_)
      -- ret 20 lv=0:r,1:n,2:n st=n
      exact ⟨rfl, rfl, by rw [show isNm (sl f s (t - s)) = false by simp [isNm, hne, sl_len]; omega]; rfl⟩
    · refine aw_iconstN (pc := 15) X 1 d_Rd_isName_15 (by decide) ?_
      refine aw_goto (pc := 16) X (tgt := 20) d_Rd_isName_16 (by rfl) ?_
      refine aw_zret Y X rfl (by decide +kernel) d_Rd_isName_20 (by omega) (by omega) (hP _ _ _ ?_)
      -- ret 20 lv=0:r,1:n,2:n st=n
      exact ⟨rfl, rfl, by rw [show isNm (sl f s (t - s)) = true by simp [isNm, hne, sl_len]; omega]; rfl⟩
end

