/-! RescanDesk$Calls at 317, its gathered text at 318, its calls from 321 on, the bare one at 405 -/
def y_Cs_init : MethodName := ⟨"RescanDesk$Calls", "<init>", "()V"⟩
abbrev b_Cs_init : ByteArray := prog_5_method_1_code
theorem d_Cs_init_0 : decode b_Cs_init 0 = .ok (.aload_n 0, 1) := by decide +kernel
theorem d_Cs_init_1 : decode b_Cs_init 1 = .ok (.invokespecial 3, 3) := by decide +kernel
theorem d_Cs_init_4 : decode b_Cs_init 4 = .ok (.aload_n 0, 1) := by decide +kernel
theorem d_Cs_init_5 : decode b_Cs_init 5 = .ok (.new 9, 3) := by decide +kernel
theorem d_Cs_init_8 : decode b_Cs_init 8 = .ok (.dup, 1) := by decide +kernel
theorem d_Cs_init_9 : decode b_Cs_init 9 = .ok (.sipush 400, 3) := by decide +kernel
theorem d_Cs_init_12 : decode b_Cs_init 12 = .ok (.invokespecial 11, 3) := by decide +kernel
theorem d_Cs_init_15 : decode b_Cs_init 15 = .ok (.putfield 14, 3) := by decide +kernel
theorem d_Cs_init_18 : decode b_Cs_init 18 = .ok (.aload_n 0, 1) := by decide +kernel
theorem d_Cs_init_19 : decode b_Cs_init 19 = .ok (.bipush 12, 2) := by decide +kernel
theorem d_Cs_init_21 : decode b_Cs_init 21 = .ok (.anewarray 20, 3) := by decide +kernel
theorem d_Cs_init_24 : decode b_Cs_init 24 = .ok (.putfield 22, 3) := by decide +kernel
theorem d_Cs_init_27 : decode b_Cs_init 27 = .ok (.iconst 0, 1) := by decide +kernel
theorem d_Cs_init_28 : decode b_Cs_init 28 = .ok (.istore_n 1, 1) := by decide +kernel
theorem d_Cs_init_29 : decode b_Cs_init 29 = .ok (.iload_n 1, 1) := by decide +kernel
theorem d_Cs_init_30 : decode b_Cs_init 30 = .ok (.bipush 12, 2) := by decide +kernel
theorem d_Cs_init_32 : decode b_Cs_init 32 = .ok (.if_icmp .ge 29, 3) := by decide +kernel
theorem d_Cs_init_35 : decode b_Cs_init 35 = .ok (.aload_n 0, 1) := by decide +kernel
theorem d_Cs_init_36 : decode b_Cs_init 36 = .ok (.getfield 22, 3) := by decide +kernel
theorem d_Cs_init_39 : decode b_Cs_init 39 = .ok (.iload_n 1, 1) := by decide +kernel
theorem d_Cs_init_40 : decode b_Cs_init 40 = .ok (.new 20, 3) := by decide +kernel
theorem d_Cs_init_43 : decode b_Cs_init 43 = .ok (.dup, 1) := by decide +kernel
theorem d_Cs_init_44 : decode b_Cs_init 44 = .ok (.aload_n 0, 1) := by decide +kernel
theorem d_Cs_init_45 : decode b_Cs_init 45 = .ok (.getfield 14, 3) := by decide +kernel
theorem d_Cs_init_48 : decode b_Cs_init 48 = .ok (.getfield 26, 3) := by decide +kernel
theorem d_Cs_init_51 : decode b_Cs_init 51 = .ok (.invokespecial 30, 3) := by decide +kernel
theorem d_Cs_init_54 : decode b_Cs_init 54 = .ok (.aastore, 1) := by decide +kernel
theorem d_Cs_init_55 : decode b_Cs_init 55 = .ok (.iinc 1 1, 3) := by decide +kernel
theorem d_Cs_init_58 : decode b_Cs_init 58 = .ok (.goto (-29), 3) := by decide +kernel
theorem d_Cs_init_61 : decode b_Cs_init 61 = .ok (.aload_n 0, 1) := by decide +kernel
theorem d_Cs_init_62 : decode b_Cs_init 62 = .ok (.new 20, 3) := by decide +kernel
theorem d_Cs_init_65 : decode b_Cs_init 65 = .ok (.dup, 1) := by decide +kernel
theorem d_Cs_init_66 : decode b_Cs_init 66 = .ok (.aload_n 0, 1) := by decide +kernel
theorem d_Cs_init_67 : decode b_Cs_init 67 = .ok (.getfield 14, 3) := by decide +kernel
theorem d_Cs_init_70 : decode b_Cs_init 70 = .ok (.getfield 26, 3) := by decide +kernel
theorem d_Cs_init_73 : decode b_Cs_init 73 = .ok (.invokespecial 30, 3) := by decide +kernel
theorem d_Cs_init_76 : decode b_Cs_init 76 = .ok (.putfield 33, 3) := by decide +kernel
theorem d_Cs_init_79 : decode b_Cs_init 79 = .ok (.aload_n 0, 1) := by decide +kernel
theorem d_Cs_init_80 : decode b_Cs_init 80 = .ok (.iconst 0, 1) := by decide +kernel
theorem d_Cs_init_81 : decode b_Cs_init 81 = .ok (.putfield 37, 3) := by decide +kernel
theorem d_Cs_init_84 : decode b_Cs_init 84 = .ok (.aload_n 0, 1) := by decide +kernel
theorem d_Cs_init_85 : decode b_Cs_init 85 = .ok (.iconst 0, 1) := by decide +kernel
theorem d_Cs_init_86 : decode b_Cs_init 86 = .ok (.putfield 41, 3) := by decide +kernel
theorem d_Cs_init_89 : decode b_Cs_init 89 = .ok (.return_, 1) := by decide +kernel
theorem q_Cs_init : aw_q1 y_Cs_init b_Cs_init 2 none 0 := ⟨k_265, k_75, ⟨by decide, by decide, by decide +kernel⟩, by decide⟩
def y_Cs_begin : MethodName := ⟨"RescanDesk$Calls", "begin", "()V"⟩
abbrev b_Cs_begin : ByteArray := prog_5_method_2_code
theorem d_Cs_begin_0 : decode b_Cs_begin 0 = .ok (.aload_n 0, 1) := by decide +kernel
theorem d_Cs_begin_1 : decode b_Cs_begin 1 = .ok (.getfield 14, 3) := by decide +kernel
theorem d_Cs_begin_4 : decode b_Cs_begin 4 = .ok (.invokevirtual 44, 3) := by decide +kernel
theorem d_Cs_begin_7 : decode b_Cs_begin 7 = .ok (.aload_n 0, 1) := by decide +kernel
theorem d_Cs_begin_8 : decode b_Cs_begin 8 = .ok (.iconst 0, 1) := by decide +kernel
theorem d_Cs_begin_9 : decode b_Cs_begin 9 = .ok (.putfield 37, 3) := by decide +kernel
theorem d_Cs_begin_12 : decode b_Cs_begin 12 = .ok (.aload_n 0, 1) := by decide +kernel
theorem d_Cs_begin_13 : decode b_Cs_begin 13 = .ok (.iconst 0, 1) := by decide +kernel
theorem d_Cs_begin_14 : decode b_Cs_begin 14 = .ok (.putfield 41, 3) := by decide +kernel
theorem d_Cs_begin_17 : decode b_Cs_begin 17 = .ok (.return_, 1) := by decide +kernel
theorem q_Cs_begin : aw_q1 y_Cs_begin b_Cs_begin 1 none 0 := ⟨k_520, k_75, ⟨by decide, by decide, by decide +kernel⟩, by decide⟩
def y_Cs_latest : MethodName := ⟨"RescanDesk$Calls", "latest", "()LRescanDesk$Call;"⟩
abbrev b_Cs_latest : ByteArray := prog_5_method_3_code
theorem d_Cs_latest_0 : decode b_Cs_latest 0 = .ok (.aload_n 0, 1) := by decide +kernel
theorem d_Cs_latest_1 : decode b_Cs_latest 1 = .ok (.getfield 37, 3) := by decide +kernel
theorem d_Cs_latest_4 : decode b_Cs_latest 4 = .ok (.ifCond .le 17, 3) := by decide +kernel
theorem d_Cs_latest_7 : decode b_Cs_latest 7 = .ok (.aload_n 0, 1) := by decide +kernel
theorem d_Cs_latest_8 : decode b_Cs_latest 8 = .ok (.getfield 22, 3) := by decide +kernel
theorem d_Cs_latest_11 : decode b_Cs_latest 11 = .ok (.aload_n 0, 1) := by decide +kernel
theorem d_Cs_latest_12 : decode b_Cs_latest 12 = .ok (.getfield 37, 3) := by decide +kernel
theorem d_Cs_latest_15 : decode b_Cs_latest 15 = .ok (.iconst 1, 1) := by decide +kernel
theorem d_Cs_latest_16 : decode b_Cs_latest 16 = .ok (.isub, 1) := by decide +kernel
theorem d_Cs_latest_17 : decode b_Cs_latest 17 = .ok (.aaload, 1) := by decide +kernel
theorem d_Cs_latest_18 : decode b_Cs_latest 18 = .ok (.goto 4, 3) := by decide +kernel
theorem d_Cs_latest_21 : decode b_Cs_latest 21 = .ok (.aconst_null, 1) := by decide +kernel
theorem d_Cs_latest_22 : decode b_Cs_latest 22 = .ok (.areturn, 1) := by decide +kernel
theorem q_Cs_latest : aw_q1 y_Cs_latest b_Cs_latest 1 (some (.object "RescanDesk$Call")) 0 := ⟨k_591, k_75, ⟨by decide, by decide, by decide +kernel⟩, by decide⟩
def y_Cs_markBegun : MethodName := ⟨"RescanDesk$Calls", "markBegun", "()V"⟩
abbrev b_Cs_markBegun : ByteArray := prog_5_method_4_code
theorem d_Cs_markBegun_0 : decode b_Cs_markBegun 0 = .ok (.aload_n 0, 1) := by decide +kernel
theorem d_Cs_markBegun_1 : decode b_Cs_markBegun 1 = .ok (.getfield 37, 3) := by decide +kernel
theorem d_Cs_markBegun_4 : decode b_Cs_markBegun 4 = .ok (.ifCond .le 18, 3) := by decide +kernel
theorem d_Cs_markBegun_7 : decode b_Cs_markBegun 7 = .ok (.aload_n 0, 1) := by decide +kernel
theorem d_Cs_markBegun_8 : decode b_Cs_markBegun 8 = .ok (.getfield 22, 3) := by decide +kernel
theorem d_Cs_markBegun_11 : decode b_Cs_markBegun 11 = .ok (.aload_n 0, 1) := by decide +kernel
theorem d_Cs_markBegun_12 : decode b_Cs_markBegun 12 = .ok (.getfield 37, 3) := by decide +kernel
theorem d_Cs_markBegun_15 : decode b_Cs_markBegun 15 = .ok (.iconst 1, 1) := by decide +kernel
theorem d_Cs_markBegun_16 : decode b_Cs_markBegun 16 = .ok (.isub, 1) := by decide +kernel
theorem d_Cs_markBegun_17 : decode b_Cs_markBegun 17 = .ok (.aaload, 1) := by decide +kernel
theorem d_Cs_markBegun_18 : decode b_Cs_markBegun 18 = .ok (.iconst 1, 1) := by decide +kernel
theorem d_Cs_markBegun_19 : decode b_Cs_markBegun 19 = .ok (.putfield 47, 3) := by decide +kernel
theorem d_Cs_markBegun_22 : decode b_Cs_markBegun 22 = .ok (.return_, 1) := by decide +kernel
theorem q_Cs_markBegun : aw_q1 y_Cs_markBegun b_Cs_markBegun 1 none 0 := ⟨k_537, k_75, ⟨by decide, by decide, by decide +kernel⟩, by decide⟩
def y_Cs_bare : MethodName := ⟨"RescanDesk$Calls", "bare", "(LRescanDesk$Definition;)LRescanDesk$Call;"⟩
abbrev b_Cs_bare : ByteArray := prog_5_method_5_code
theorem d_Cs_bare_0 : decode b_Cs_bare 0 = .ok (.aload_n 0, 1) := by decide +kernel
theorem d_Cs_bare_1 : decode b_Cs_bare 1 = .ok (.getfield 33, 3) := by decide +kernel
theorem d_Cs_bare_4 : decode b_Cs_bare 4 = .ok (.getfield 51, 3) := by decide +kernel
theorem d_Cs_bare_7 : decode b_Cs_bare 7 = .ok (.aload_n 1, 1) := by decide +kernel
theorem d_Cs_bare_8 : decode b_Cs_bare 8 = .ok (.invokevirtual 55, 3) := by decide +kernel
theorem d_Cs_bare_11 : decode b_Cs_bare 11 = .ok (.aload_n 0, 1) := by decide +kernel
theorem d_Cs_bare_12 : decode b_Cs_bare 12 = .ok (.getfield 33, 3) := by decide +kernel
theorem d_Cs_bare_15 : decode b_Cs_bare 15 = .ok (.areturn, 1) := by decide +kernel
theorem q_Cs_bare : aw_q1 y_Cs_bare b_Cs_bare 2 (some (.object "RescanDesk$Call")) 1 := ⟨k_571, k_75, ⟨by decide, by decide, by decide +kernel⟩, by decide⟩
def y_Cs_start : MethodName := ⟨"RescanDesk$Calls", "start", "(LRescanDesk$Definition;)Z"⟩
abbrev b_Cs_start : ByteArray := prog_5_method_6_code
theorem d_Cs_start_0 : decode b_Cs_start 0 = .ok (.aload_n 0, 1) := by decide +kernel
theorem d_Cs_start_1 : decode b_Cs_start 1 = .ok (.getfield 37, 3) := by decide +kernel
theorem d_Cs_start_4 : decode b_Cs_start 4 = .ok (.bipush 12, 2) := by decide +kernel
theorem d_Cs_start_6 : decode b_Cs_start 6 = .ok (.if_icmp .lt 5, 3) := by decide +kernel
theorem d_Cs_start_9 : decode b_Cs_start 9 = .ok (.iconst 0, 1) := by decide +kernel
theorem d_Cs_start_10 : decode b_Cs_start 10 = .ok (.ireturn, 1) := by decide +kernel
theorem d_Cs_start_11 : decode b_Cs_start 11 = .ok (.aload_n 0, 1) := by decide +kernel
theorem d_Cs_start_12 : decode b_Cs_start 12 = .ok (.getfield 22, 3) := by decide +kernel
theorem d_Cs_start_15 : decode b_Cs_start 15 = .ok (.aload_n 0, 1) := by decide +kernel
theorem d_Cs_start_16 : decode b_Cs_start 16 = .ok (.getfield 37, 3) := by decide +kernel
theorem d_Cs_start_19 : decode b_Cs_start 19 = .ok (.aaload, 1) := by decide +kernel
theorem d_Cs_start_20 : decode b_Cs_start 20 = .ok (.astore_n 2, 1) := by decide +kernel
theorem d_Cs_start_21 : decode b_Cs_start 21 = .ok (.aload_n 2, 1) := by decide +kernel
theorem d_Cs_start_22 : decode b_Cs_start 22 = .ok (.getfield 51, 3) := by decide +kernel
theorem d_Cs_start_25 : decode b_Cs_start 25 = .ok (.aload_n 1, 1) := by decide +kernel
theorem d_Cs_start_26 : decode b_Cs_start 26 = .ok (.invokevirtual 55, 3) := by decide +kernel
theorem d_Cs_start_29 : decode b_Cs_start 29 = .ok (.aload_n 2, 1) := by decide +kernel
theorem d_Cs_start_30 : decode b_Cs_start 30 = .ok (.getfield 61, 3) := by decide +kernel
theorem d_Cs_start_33 : decode b_Cs_start 33 = .ok (.iconst 0, 1) := by decide +kernel
theorem d_Cs_start_34 : decode b_Cs_start 34 = .ok (.aload_n 0, 1) := by decide +kernel
theorem d_Cs_start_35 : decode b_Cs_start 35 = .ok (.getfield 14, 3) := by decide +kernel
theorem d_Cs_start_38 : decode b_Cs_start 38 = .ok (.getfield 65, 3) := by decide +kernel
theorem d_Cs_start_41 : decode b_Cs_start 41 = .ok (.iastore, 1) := by decide +kernel
theorem d_Cs_start_42 : decode b_Cs_start 42 = .ok (.aload_n 2, 1) := by decide +kernel
theorem d_Cs_start_43 : decode b_Cs_start 43 = .ok (.iconst 1, 1) := by decide +kernel
theorem d_Cs_start_44 : decode b_Cs_start 44 = .ok (.putfield 68, 3) := by decide +kernel
theorem d_Cs_start_47 : decode b_Cs_start 47 = .ok (.aload_n 2, 1) := by decide +kernel
theorem d_Cs_start_48 : decode b_Cs_start 48 = .ok (.iconst 0, 1) := by decide +kernel
theorem d_Cs_start_49 : decode b_Cs_start 49 = .ok (.putfield 71, 3) := by decide +kernel
theorem d_Cs_start_52 : decode b_Cs_start 52 = .ok (.aload_n 2, 1) := by decide +kernel
theorem d_Cs_start_53 : decode b_Cs_start 53 = .ok (.iconst 0, 1) := by decide +kernel
theorem d_Cs_start_54 : decode b_Cs_start 54 = .ok (.putfield 47, 3) := by decide +kernel
theorem d_Cs_start_57 : decode b_Cs_start 57 = .ok (.aload_n 0, 1) := by decide +kernel
theorem d_Cs_start_58 : decode b_Cs_start 58 = .ok (.dup, 1) := by decide +kernel
theorem d_Cs_start_59 : decode b_Cs_start 59 = .ok (.getfield 37, 3) := by decide +kernel
theorem d_Cs_start_62 : decode b_Cs_start 62 = .ok (.iconst 1, 1) := by decide +kernel
theorem d_Cs_start_63 : decode b_Cs_start 63 = .ok (.iadd, 1) := by decide +kernel
theorem d_Cs_start_64 : decode b_Cs_start 64 = .ok (.putfield 37, 3) := by decide +kernel
theorem d_Cs_start_67 : decode b_Cs_start 67 = .ok (.aload_n 0, 1) := by decide +kernel
theorem d_Cs_start_68 : decode b_Cs_start 68 = .ok (.aload_n 0, 1) := by decide +kernel
theorem d_Cs_start_69 : decode b_Cs_start 69 = .ok (.getfield 41, 3) := by decide +kernel
theorem d_Cs_start_72 : decode b_Cs_start 72 = .ok (.aload_n 0, 1) := by decide +kernel
theorem d_Cs_start_73 : decode b_Cs_start 73 = .ok (.getfield 37, 3) := by decide +kernel
theorem d_Cs_start_76 : decode b_Cs_start 76 = .ok (.invokestatic 74, 3) := by decide +kernel
theorem d_Cs_start_79 : decode b_Cs_start 79 = .ok (.putfield 41, 3) := by decide +kernel
theorem d_Cs_start_82 : decode b_Cs_start 82 = .ok (.iconst 1, 1) := by decide +kernel
theorem d_Cs_start_83 : decode b_Cs_start 83 = .ok (.ireturn, 1) := by decide +kernel
theorem q_Cs_start : aw_q1 y_Cs_start b_Cs_start 3 (some .boolean) 1 := ⟨k_584, k_75, ⟨by decide, by decide, by decide +kernel⟩, by decide⟩
def y_Cs_nextArgument : MethodName := ⟨"RescanDesk$Calls", "nextArgument", "(LRescanDesk$Call;)Z"⟩
abbrev b_Cs_nextArgument : ByteArray := prog_5_method_7_code
theorem d_Cs_nextArgument_0 : decode b_Cs_nextArgument 0 = .ok (.aload_n 1, 1) := by decide +kernel
theorem d_Cs_nextArgument_1 : decode b_Cs_nextArgument 1 = .ok (.getfield 68, 3) := by decide +kernel
theorem d_Cs_nextArgument_4 : decode b_Cs_nextArgument 4 = .ok (.bipush 9, 2) := by decide +kernel
theorem d_Cs_nextArgument_6 : decode b_Cs_nextArgument 6 = .ok (.if_icmp .lt 5, 3) := by decide +kernel
theorem d_Cs_nextArgument_9 : decode b_Cs_nextArgument 9 = .ok (.iconst 0, 1) := by decide +kernel
theorem d_Cs_nextArgument_10 : decode b_Cs_nextArgument 10 = .ok (.ireturn, 1) := by decide +kernel
theorem d_Cs_nextArgument_11 : decode b_Cs_nextArgument 11 = .ok (.aload_n 1, 1) := by decide +kernel
theorem d_Cs_nextArgument_12 : decode b_Cs_nextArgument 12 = .ok (.getfield 61, 3) := by decide +kernel
theorem d_Cs_nextArgument_15 : decode b_Cs_nextArgument 15 = .ok (.aload_n 1, 1) := by decide +kernel
theorem d_Cs_nextArgument_16 : decode b_Cs_nextArgument 16 = .ok (.getfield 68, 3) := by decide +kernel
theorem d_Cs_nextArgument_19 : decode b_Cs_nextArgument 19 = .ok (.aload_n 0, 1) := by decide +kernel
theorem d_Cs_nextArgument_20 : decode b_Cs_nextArgument 20 = .ok (.getfield 14, 3) := by decide +kernel
theorem d_Cs_nextArgument_23 : decode b_Cs_nextArgument 23 = .ok (.getfield 65, 3) := by decide +kernel
theorem d_Cs_nextArgument_26 : decode b_Cs_nextArgument 26 = .ok (.iastore, 1) := by decide +kernel
theorem d_Cs_nextArgument_27 : decode b_Cs_nextArgument 27 = .ok (.aload_n 1, 1) := by decide +kernel
theorem d_Cs_nextArgument_28 : decode b_Cs_nextArgument 28 = .ok (.dup, 1) := by decide +kernel
theorem d_Cs_nextArgument_29 : decode b_Cs_nextArgument 29 = .ok (.getfield 68, 3) := by decide +kernel
theorem d_Cs_nextArgument_32 : decode b_Cs_nextArgument 32 = .ok (.iconst 1, 1) := by decide +kernel
theorem d_Cs_nextArgument_33 : decode b_Cs_nextArgument 33 = .ok (.iadd, 1) := by decide +kernel
theorem d_Cs_nextArgument_34 : decode b_Cs_nextArgument 34 = .ok (.putfield 68, 3) := by decide +kernel
theorem d_Cs_nextArgument_37 : decode b_Cs_nextArgument 37 = .ok (.aload_n 1, 1) := by decide +kernel
theorem d_Cs_nextArgument_38 : decode b_Cs_nextArgument 38 = .ok (.iconst 0, 1) := by decide +kernel
theorem d_Cs_nextArgument_39 : decode b_Cs_nextArgument 39 = .ok (.putfield 47, 3) := by decide +kernel
theorem d_Cs_nextArgument_42 : decode b_Cs_nextArgument 42 = .ok (.iconst 1, 1) := by decide +kernel
theorem d_Cs_nextArgument_43 : decode b_Cs_nextArgument 43 = .ok (.ireturn, 1) := by decide +kernel
theorem q_Cs_nextArgument : aw_q1 y_Cs_nextArgument b_Cs_nextArgument 2 (some .boolean) 1 := ⟨k_604, k_75, ⟨by decide, by decide, by decide +kernel⟩, by decide⟩
def y_Cs_close : MethodName := ⟨"RescanDesk$Calls", "close", "()LRescanDesk$Call;"⟩
abbrev b_Cs_close : ByteArray := prog_5_method_8_code
theorem d_Cs_close_0 : decode b_Cs_close 0 = .ok (.aload_n 0, 1) := by decide +kernel
theorem d_Cs_close_1 : decode b_Cs_close 1 = .ok (.invokevirtual 80, 3) := by decide +kernel
theorem d_Cs_close_4 : decode b_Cs_close 4 = .ok (.astore_n 1, 1) := by decide +kernel
theorem d_Cs_close_5 : decode b_Cs_close 5 = .ok (.aload_n 1, 1) := by decide +kernel
theorem d_Cs_close_6 : decode b_Cs_close 6 = .ok (.ifnull 42, 3) := by decide +kernel
theorem d_Cs_close_9 : decode b_Cs_close 9 = .ok (.aload_n 1, 1) := by decide +kernel
theorem d_Cs_close_10 : decode b_Cs_close 10 = .ok (.getfield 61, 3) := by decide +kernel
theorem d_Cs_close_13 : decode b_Cs_close 13 = .ok (.aload_n 1, 1) := by decide +kernel
theorem d_Cs_close_14 : decode b_Cs_close 14 = .ok (.getfield 68, 3) := by decide +kernel
theorem d_Cs_close_17 : decode b_Cs_close 17 = .ok (.aload_n 0, 1) := by decide +kernel
theorem d_Cs_close_18 : decode b_Cs_close 18 = .ok (.getfield 14, 3) := by decide +kernel
theorem d_Cs_close_21 : decode b_Cs_close 21 = .ok (.getfield 65, 3) := by decide +kernel
theorem d_Cs_close_24 : decode b_Cs_close 24 = .ok (.iastore, 1) := by decide +kernel
theorem d_Cs_close_25 : decode b_Cs_close 25 = .ok (.aload_n 0, 1) := by decide +kernel
theorem d_Cs_close_26 : decode b_Cs_close 26 = .ok (.getfield 14, 3) := by decide +kernel
theorem d_Cs_close_29 : decode b_Cs_close 29 = .ok (.aload_n 1, 1) := by decide +kernel
theorem d_Cs_close_30 : decode b_Cs_close 30 = .ok (.getfield 61, 3) := by decide +kernel
theorem d_Cs_close_33 : decode b_Cs_close 33 = .ok (.iconst 0, 1) := by decide +kernel
theorem d_Cs_close_34 : decode b_Cs_close 34 = .ok (.iaload, 1) := by decide +kernel
theorem d_Cs_close_35 : decode b_Cs_close 35 = .ok (.putfield 65, 3) := by decide +kernel
theorem d_Cs_close_38 : decode b_Cs_close 38 = .ok (.aload_n 0, 1) := by decide +kernel
theorem d_Cs_close_39 : decode b_Cs_close 39 = .ok (.dup, 1) := by decide +kernel
theorem d_Cs_close_40 : decode b_Cs_close 40 = .ok (.getfield 37, 3) := by decide +kernel
theorem d_Cs_close_43 : decode b_Cs_close 43 = .ok (.iconst 1, 1) := by decide +kernel
theorem d_Cs_close_44 : decode b_Cs_close 44 = .ok (.isub, 1) := by decide +kernel
theorem d_Cs_close_45 : decode b_Cs_close 45 = .ok (.putfield 37, 3) := by decide +kernel
theorem d_Cs_close_48 : decode b_Cs_close 48 = .ok (.aload_n 1, 1) := by decide +kernel
theorem d_Cs_close_49 : decode b_Cs_close 49 = .ok (.areturn, 1) := by decide +kernel
theorem q_Cs_close : aw_q1 y_Cs_close b_Cs_close 2 (some (.object "RescanDesk$Call")) 0 := ⟨k_599, k_75, ⟨by decide, by decide, by decide +kernel⟩, by decide⟩
/-- an open call: its definition, where its arguments begin, its depth, whether its argument has begun -/
abbrev CS : Type := Def × List Nat × Nat × Bool
/-- the starts rise, from call to call, up to the length of what is gathered; the latest call is first -/
def okC : List CS → Nat → Prop
  | [], _ => True
  | u :: r, n => (∃ x y, u.2.1 = x :: y ∧ okC r x) ∧ u.2.1.length ≤ 9 ∧ u.2.1.Pairwise (· ≤ ·) ∧ ∀ x ∈ u.2.1, x ≤ n
theorem okC.mono {C : List CS} {n m : Nat} (h : okC C n) (hnm : n ≤ m) : okC C m := by
  cases C with
  | nil => trivial
  | cons u r => exact ⟨h.1, h.2.1, h.2.2.1, fun x hx => Nat.le_trans (h.2.2.2 x hx) hnm⟩
def hCs (G : aw_G) (w : Nat → va_E) (ga : List Nat) (C : List CS) (mo : Nat) : Prop :=
  C.length ≤ 12 ∧ w 317 = aObj 6 [rf G 318, rf G 320, rf G 405, .int (nI C.length), .int (nI mo)] ∧ hTx G w 318 400 ga ∧ (∃ f, w 320 = aRefs (G.2.2.2.1 6) 12 f ∧ ∀ i, i < 12 → f i = some (G.2.2.1 + (321 + 7 * i))) ∧ (∀ i, i < 12 → ∃ t st n dp bg, hCa G w (321 + 7 * i) t st n dp bg ∧ n ≤ 9 ∧ dp ≤ 10000 ∧ t.2.1 ≤ 16 ∧ ∀ u : CS, C.reverse[i]? = some u → u = (t, sl st 0 n, dp, bg)) ∧ (∃ t dp bg, hCa G w 405 t (fun _ => 0) 0 dp bg ∧ t.2.1 ≤ 16) ∧ okC C ga.length ∧ mo ≤ 12
theorem hCa.keep {G : aw_G} {w w' : Nat → va_E} {a n dp : Nat} {t : Def} {st : Nat → Nat} {bg : Bool} {lo hi : Nat} (h : hCa G w a t st n dp bg) (hf : fr lo hi w w') (h1 : a + 7 ≤ lo ∨ hi ≤ a) : hCa G w' a t st n dp bg := ⟨(hf _ (by omega)).trans h.1, h.2.1.keep hf (by omega), (hf _ (by omega)).trans h.2.2⟩
theorem hCs.keep {G : aw_G} {w w' : Nat → va_E} {ga : List Nat} {C : List CS} {mo : Nat} {lo hi : Nat} (h : hCs G w ga C mo) (hf : fr lo hi w w') (h1 : hi ≤ 317 ∨ 412 ≤ lo) : hCs G w' ga C mo := by
  obtain ⟨a1, a2, a3, ⟨f, a4, a5⟩, a6, ⟨t, dp, bg, a7, a8⟩, a9⟩ := h
  refine ⟨a1, (hf _ (by omega)).trans a2, a3.keep hf (by omega), ⟨f, (hf _ (by omega)).trans a4, a5⟩, fun i hi => ?_, ⟨t, dp, bg, a7.keep hf (by omega), a8⟩, a9⟩
  obtain ⟨t, st, n, dp, bg, b1, b2⟩ := a6 i hi
  exact ⟨t, st, n, dp, bg, b1.keep hf (by omega), b2⟩
/-- a call that is to be expanded: its definition and its arguments -/
def hRdy (G : aw_G) (w : Nat → va_E) (a : Nat) (t : Def) (ar : List (List Nat)) : Prop :=
  ∃ st gg dp bg, hCa G w a t st ar.length dp bg ∧ okSt st ar.length ∧ w 319 = aCh G 400 gg ∧ (∀ j, gg j < 65536) ∧ t.2.1 ≤ 16 ∧ ∀ i, argL gg st ar.length i = if 1 ≤ i ∧ i ≤ ar.length then ar.getD (i - 1) [] else []
/-- what is gathered, cut at the starts -/
def cut (ga : List Nat) : List Nat → List (List Nat)
  | [] => []
  | [x] => [ga.drop x]
  | x :: y :: r => (ga.drop x).take (y - x) :: cut ga (y :: r)
theorem cut_len (ga : List Nat) : ∀ l, (cut ga l).length = l.length
  | [] => rfl
  | [x] => rfl
  | x :: y :: r => by simp [cut, cut_len ga (y :: r)]
section
variable {G : aw_G} {nx d : Nat} {w : Nat → va_E}
theorem s_Cs_begin {ga : List Nat} {C : List CS} {mo : Nat} (hnx : 412 ≤ nx) (hd : 1 ≤ d) (h : hCs G w ga C mo) : AC G y_Cs_begin b_Cs_begin 1 none d false [rf G 317] nx w 0 0 (fun r w' nx' => nx' = nx ∧ r = none ∧ hCs G w' [] [] 0 ∧ fr 317 412 w w') := by
  obtain ⟨a1, a2, a3, ⟨f, a4, a5⟩, a6, ⟨t, dp, bg, a7, a8⟩, a9, a10⟩ := h
  refine AC.ofW (by decide) (Nat.le_of_ble_eq_true rfl) ?_
  intro E P hP Y X
  have X : aw_X G "RescanDesk$Calls" b_Cs_begin 1 none "begin" _ _ _ _ _ E := X
  refine AW.eql (lv' := [(0, _)]) (by rfl) ?_
  refine aw_aload_nR (pc := 0) X d_Cs_begin_0 (by rfl) ?_
  refine aw_getO (pc := 1) X _ 0 (by omega) (by (repeat (first | rw [aw_up_eq] | rw [aw_up_ne _ _ (by first | assumption | omega)])) <;> first | assumption | rfl) (by rfl) in_Cs (by decide) k_308 (by rfl) d_Cs_begin_1 ?_
  -- invokevirtual 4 lv=0:r st=r
  refine aw_callV (pc := 4) X _ (s_Tx_empty (d := 0) (by omega) a3) q_Tx_empty k_521 k_196 k_197 (by omega) a3.obj (by rfl) d_Cs_begin_4 (by omega) (Nat.le_of_ble_eq_true rfl) ⟨by omega, by omega⟩ (fun h => by cases h) (fun r w2 nx2 hp => ?_)
  obtain ⟨rfl, rfl, ht, hf⟩ := hp
  have a22 : w2 317 = aObj 6 [rf G 318, rf G 320, rf G 405, .int (nI C.length), .int (nI mo)] := (hf _ (by omega)).trans a2
  refine aw_aload_nR (pc := 7) X d_Cs_begin_7 (by rfl) ?_
  refine aw_iconstN (pc := 8) X 0 d_Cs_begin_8 (by decide) ?_
  refine aw_putO (pc := 9) X _ 3 (by omega) (by (repeat (first | rw [aw_up_eq] | rw [aw_up_ne _ _ (by first | assumption | omega)])) <;> first | assumption | rfl) (by rfl) in_Cs (by decide) ty_Cs ok_Cs nm_Cs k_312 (by rfl) (by rfl) (by rfl) (by simp) (fs' := [_, _, _, _, _]) (by rfl) d_Cs_begin_9 ?_
  refine aw_aload_nR (pc := 12) X d_Cs_begin_12 (by rfl) ?_
  refine aw_iconstN (pc := 13) X 0 d_Cs_begin_13 (by decide) ?_
  refine aw_putO (pc := 14) X _ 4 (by omega) (by (repeat (first | rw [aw_up_eq] | rw [aw_up_ne _ _ (by first | assumption | omega)])) <;> first | assumption | rfl) (by rfl) in_Cs (by decide) ty_Cs ok_Cs nm_Cs k_314 (by rfl) (by rfl) (by rfl) (by simp) (fs' := [_, _, _, _, _]) (by rfl) d_Cs_begin_14 ?_
  refine aw_vret Y X rfl d_Cs_begin_17 (by omega) (by omega) (hP _ _ _ ?_)
  -- ret 17 lv=0:r st=
  rw [aw_up_up]
  generalize hw3 : aw_up w2 317 _ = w3
  have f3 : fr 317 318 w2 w3 := by rw [← hw3]; exact (fr.refl _ _ _).up _ (by omega)
  refine ⟨rfl, rfl, ⟨by simp, by rw [← hw3]; exact aw_up_eq _ _ _, ht.keep f3 (by omega), ⟨f, ((f3 _ (by omega)).trans (hf _ (by omega))).trans a4, a5⟩, fun i hi => ?_, ⟨t, dp, bg, (a7.keep hf (by omega)).keep f3 (by omega), a8⟩, trivial, by omega⟩, (hf.mono (by omega) (by omega)).trans (f3.mono (by omega) (by omega))⟩
  obtain ⟨t, st, n, dp, bg, b1, b2, b3, b4, b5⟩ := a6 i hi
  exact ⟨t, st, n, dp, bg, (b1.keep hf (by omega)).keep f3 (by omega), b2, b3, b4, fun u hu => by simp at hu⟩
theorem s_Cs_latest {ga : List Nat} {C : List CS} {mo : Nat} (hnx : 412 ≤ nx) (h : hCs G w ga C mo) : AC G y_Cs_latest b_Cs_latest 1 (some (.object "RescanDesk$Call")) d false [rf G 317] nx w 0 0 (fun r w' nx' => nx' = nx ∧ w' = w ∧ r = some (match C with | [] => .null | _ :: c => rf G (321 + 7 * c.length))) := by
  obtain ⟨a1, a2, a3, ⟨f, a4, a5⟩, a6, -⟩ := h
  refine AC.ofW (by decide) (Nat.le_of_ble_eq_true rfl) ?_
  intro E P hP Y X
  have X : aw_X G "RescanDesk$Calls" b_Cs_latest 1 (some (.object "RescanDesk$Call")) "latest" _ _ _ _ _ E := X
  refine AW.eql (lv' := [(0, _)]) (by rfl) ?_
  cases C with
  | nil =>
    have a2' : w 317 = aObj 6 [rf G 318, rf G 320, rf G 405, .int (nI 0), .int (nI mo)] := a2
    refine aw_aload_nR (pc := 0) X d_Cs_latest_0 (by rfl) ?_
    refine aw_getO (pc := 1) X _ 3 (by omega) (by (repeat (first | rw [aw_up_eq] | rw [aw_up_ne _ _ (by first | assumption | omega)])) <;> first | assumption | rfl) (by rfl) in_Cs (by decide) k_312 (by rfl) d_Cs_latest_1 ?_
    refine aw_if_leN (pc := 4) X (tgt := 21) d_Cs_latest_4 (by rfl) (by omega) (fun h4 => ?_) (fun h4 => ?_)
    -- br 4 lv=0:r st=
    · refine aw_null (pc := 21) X d_Cs_latest_21 ?_
      refine aw_aret Y X rfl (Or.inl rfl) d_Cs_latest_22 (by omega) (by omega) (hP _ _ _ ?_)
      -- ret 22 lv=0:r st=0
      exact ⟨rfl, rfl, rfl⟩
    · omega
  | cons u c =>
    have a2' : w 317 = aObj 6 [rf G 318, rf G 320, rf G 405, .int (nI (c.length + 1)), .int (nI mo)] := a2
    have hc : c.length < 12 := a1
    have a5c := a5 c.length hc
    refine aw_aload_nR (pc := 0) X d_Cs_latest_0 (by rfl) ?_
    refine aw_getO (pc := 1) X _ 3 (by omega) (by (repeat (first | rw [aw_up_eq] | rw [aw_up_ne _ _ (by first | assumption | omega)])) <;> first | assumption | rfl) (by rfl) in_Cs (by decide) k_312 (by rfl) d_Cs_latest_1 ?_
    refine aw_if_leN (pc := 4) X (tgt := 21) d_Cs_latest_4 (by rfl) (by omega) (fun h4 => ?_) (fun h4 => ?_)
    -- br 4 lv=0:r st=
    · omega
    · refine aw_aload_nR (pc := 7) X d_Cs_latest_7 (by rfl) ?_
      refine aw_getO (pc := 8) X _ 1 (by omega) (by (repeat (first | rw [aw_up_eq] | rw [aw_up_ne _ _ (by first | assumption | omega)])) <;> first | assumption | rfl) (by rfl) in_Cs (by decide) k_310 (by rfl) d_Cs_latest_8 ?_
      refine aw_aload_nR (pc := 11) X d_Cs_latest_11 (by rfl) ?_
      refine aw_getO (pc := 12) X _ 3 (by omega) (by (repeat (first | rw [aw_up_eq] | rw [aw_up_ne _ _ (by first | assumption | omega)])) <;> first | assumption | rfl) (by rfl) in_Cs (by decide) k_312 (by rfl) d_Cs_latest_12 ?_
      refine aw_iconstN (pc := 15) X 1 d_Cs_latest_15 (by decide) ?_
      refine aw_isubN (pc := 16) X d_Cs_latest_16 (by omega) ?_
      -- stop 17 lv=0:r st=n,r
      refine AW.of rfl rfl rfl rfl rfl (rest' := [.int (nI c.length), rf G 320]) rfl ?_
      refine aw_aaldN (pc := 17) X _ 6 (by omega) (by (repeat (first | rw [aw_up_eq] | rw [aw_up_ne _ _ (by first | assumption | omega)])) <;> first | assumption | rfl) (by rfl) (by omega) (by omega) (by assumption) d_Cs_latest_17 ?_
      refine aw_goto (pc := 18) X (tgt := 22) d_Cs_latest_18 (by rfl) ?_
      refine aw_aret Y X rfl (Or.inr ⟨_, rfl⟩) d_Cs_latest_22 (by omega) (by omega) (hP _ _ _ ?_)
      -- ret 22 lv=0:r st=r
      exact ⟨rfl, rfl, rfl⟩
/-- the latest call is another now -/
def updH (C : List CS) (F : CS → CS) : List CS := match C with
  | [] => []
  | u :: c => F u :: c
theorem rev_last {α : Type} (u : α) (c : List α) : (u :: c).reverse[c.length]? = some u := by simp
theorem rev_ne {α : Type} (u v : α) (c : List α) {i : Nat} (h : i ≠ c.length) : (u :: c).reverse[i]? = (v :: c).reverse[i]? := by
  simp only [List.reverse_cons]
  by_cases q : i < c.length
  · rw [List.getElem?_append_left (by simpa using q), List.getElem?_append_left (by simpa using q)]
  · rw [List.getElem?_append_right (by simp; omega), List.getElem?_append_right (by simp; omega)]
    have : i - c.reverse.length = (i - c.length - 1) + 1 := by simp; omega
    rw [this]
    simp
theorem hCs.top {G : aw_G} {w : Nat → va_E} {ga : List Nat} {u : CS} {c : List CS} {mo : Nat} (h : hCs G w ga (u :: c) mo) : c.length < 12 ∧ ∃ st, hCa G w (321 + 7 * c.length) u.1 st u.2.1.length u.2.2.1 u.2.2.2 ∧ u.2.1 = sl st 0 u.2.1.length ∧ u.2.2.1 ≤ 10000 ∧ u.1.2.1 ≤ 16 := by
  have hc : c.length < 12 := h.1
  refine ⟨hc, ?_⟩
  obtain ⟨t, st, n, dp, bg, b1, b2, b3, b4, b5⟩ := h.2.2.2.2.1 c.length hc
  have := b5 u (rev_last u c)
  subst this
  exact ⟨st, by rw [show (t, sl st 0 n, dp, bg).2.1.length = n from sl_len _ _ _]; exact b1, by rw [show (t, sl st 0 n, dp, bg).2.1.length = n from sl_len _ _ _], b3, b4⟩
/-- the latest call's cells have changed, and what is gathered -/
theorem hCs.upd {G : aw_G} {w w' : Nat → va_E} {ga ga' : List Nat} {u v : CS} {c : List CS} {mo : Nat} {st : Nat → Nat} (h : hCs G w ga (u :: c) mo) (hs : hTx G w' 318 400 ga') (hc : hCa G w' (321 + 7 * c.length) v.1 st v.2.1.length v.2.2.1 v.2.2.2) (hv : v.2.1 = sl st 0 v.2.1.length) (hd : v.2.2.1 ≤ 10000) (hk : v.1.2.1 ≤ 16) (ho : okC (v :: c) ga'.length) (hf : ∀ x, x < 318 ∨ (320 ≤ x ∧ x < 321 + 7 * c.length) ∨ 321 + 7 * c.length + 7 ≤ x → w' x = w x) : hCs G w' ga' (v :: c) mo := by
  have hc12 := h.top.1
  obtain ⟨a1, a2, a3, ⟨f, a4, a5⟩, a6, ⟨t, dp, bg, a7, a8⟩, a9, a10⟩ := h
  have kk : ∀ (a n dp : Nat) (t : Def) (st : Nat → Nat) (bg : Bool), hCa G w a t st n dp bg → 321 ≤ a → (a + 7 ≤ 321 + 7 * c.length ∨ 321 + 7 * c.length + 7 ≤ a) → hCa G w' a t st n dp bg := fun a n dp t st bg q q1 q2 =>
    ⟨(hf _ (by omega)).trans q.1, ⟨(hf _ (by omega)).trans q.2.1.1, q.2.1.2.1.kept (hf _ (by omega)) (hf _ (by omega)), q.2.1.2.2.kept (hf _ (by omega)) (hf _ (by omega))⟩, (hf _ (by omega)).trans q.2.2⟩
  refine ⟨a1, (hf _ (by omega)).trans a2, hs, ⟨f, (hf _ (by omega)).trans a4, a5⟩, fun i hi => ?_, ⟨t, dp, bg, kk _ _ _ _ _ _ a7 (by omega) (by omega), a8⟩, ho, a10⟩
  by_cases e : i = c.length
  · subst e
    refine ⟨v.1, st, v.2.1.length, v.2.2.1, v.2.2.2, hc, ho.2.1, hd, hk, fun x hx => ?_⟩
    rw [rev_last] at hx
    cases hx
    exact Prod.ext rfl (Prod.ext hv rfl)
  · obtain ⟨t, st1, n, dp, bg, b1, b2, b3, b4, b5⟩ := a6 i hi
    exact ⟨t, st1, n, dp, bg, kk _ _ _ _ _ _ b1 (by omega) (by omega), b2, b3, b4, fun x hx => b5 x (by rw [rev_ne u v c e]; exact hx)⟩
theorem s_Cs_markBegun {ga : List Nat} {C : List CS} {mo : Nat} (hnx : 412 ≤ nx) (h : hCs G w ga C mo) : AC G y_Cs_markBegun b_Cs_markBegun 1 none d false [rf G 317] nx w 0 0 (fun r w' nx' => nx' = nx ∧ r = none ∧ hCs G w' ga (updH C (fun u => (u.1, u.2.1, u.2.2.1, true))) mo ∧ fr 317 412 w w') := by
  have h0 := h
  obtain ⟨a1, a2, a3, ⟨f, a4, a5⟩, a6, -⟩ := h
  refine AC.ofW (by decide) (Nat.le_of_ble_eq_true rfl) ?_
  intro E P hP Y X
  have X : aw_X G "RescanDesk$Calls" b_Cs_markBegun 1 none "markBegun" _ _ _ _ _ E := X
  refine AW.eql (lv' := [(0, _)]) (by rfl) ?_
  cases C with
  | nil =>
    have a2' : w 317 = aObj 6 [rf G 318, rf G 320, rf G 405, .int (nI 0), .int (nI mo)] := a2
    refine aw_aload_nR (pc := 0) X d_Cs_markBegun_0 (by rfl) ?_
    refine aw_getO (pc := 1) X _ 3 (by omega) (by (repeat (first | rw [aw_up_eq] | rw [aw_up_ne _ _ (by first | assumption | omega)])) <;> first | assumption | rfl) (by rfl) in_Cs (by decide) k_312 (by rfl) d_Cs_markBegun_1 ?_
    refine aw_if_leN (pc := 4) X (tgt := 22) d_Cs_markBegun_4 (by rfl) (by omega) (fun h4 => ?_) (fun h4 => ?_)
    -- br 4 lv=0:r st=
    · refine aw_vret Y X rfl d_Cs_markBegun_22 (by omega) (by omega) (hP _ _ _ ?_)
      -- ret 22 lv=0:r st=
      exact ⟨rfl, rfl, h0, fr.refl _ _ _⟩
    · omega
  | cons u c =>
    have a2' : w 317 = aObj 6 [rf G 318, rf G 320, rf G 405, .int (nI (c.length + 1)), .int (nI mo)] := a2
    obtain ⟨hc, st, b1, b2, b3, b4⟩ := h0.top
    have b1' : w (321 + 7 * c.length) = aObj 7 [rf G (321 + 7 * c.length + 1), rf G 319, rf G (321 + 7 * c.length + 6), .int (nI u.2.1.length), .int (nI u.2.2.1), .int (nI (bN u.2.2.2))] := b1.1
    have a5c := a5 c.length hc
    have hok : okC (u :: c) ga.length := h0.2.2.2.2.2.2.1
    refine aw_aload_nR (pc := 0) X d_Cs_markBegun_0 (by rfl) ?_
    refine aw_getO (pc := 1) X _ 3 (by omega) (by (repeat (first | rw [aw_up_eq] | rw [aw_up_ne _ _ (by first | assumption | omega)])) <;> first | assumption | rfl) (by rfl) in_Cs (by decide) k_312 (by rfl) d_Cs_markBegun_1 ?_
    refine aw_if_leN (pc := 4) X (tgt := 22) d_Cs_markBegun_4 (by rfl) (by omega) (fun h4 => ?_) (fun h4 => ?_)
    -- br 4 lv=0:r st=
    · omega
    · refine aw_aload_nR (pc := 7) X d_Cs_markBegun_7 (by rfl) ?_
      refine aw_getO (pc := 8) X _ 1 (by omega) (by (repeat (first | rw [aw_up_eq] | rw [aw_up_ne _ _ (by first | assumption | omega)])) <;> first | assumption | rfl) (by rfl) in_Cs (by decide) k_310 (by rfl) d_Cs_markBegun_8 ?_
      refine aw_aload_nR (pc := 11) X d_Cs_markBegun_11 (by rfl) ?_
      refine aw_getO (pc := 12) X _ 3 (by omega) (by (repeat (first | rw [aw_up_eq] | rw [aw_up_ne _ _ (by first | assumption | omega)])) <;> first | assumption | rfl) (by rfl) in_Cs (by decide) k_312 (by rfl) d_Cs_markBegun_12 ?_
      refine aw_iconstN (pc := 15) X 1 d_Cs_markBegun_15 (by decide) ?_
      refine aw_isubN (pc := 16) X d_Cs_markBegun_16 (by omega) ?_
      -- stop 17 lv=0:r st=n,r
      refine AW.of rfl rfl rfl rfl rfl (rest' := [.int (nI c.length), rf G 320]) rfl ?_
      refine aw_aaldN (pc := 17) X _ 6 (by omega) (by (repeat (first | rw [aw_up_eq] | rw [aw_up_ne _ _ (by first | assumption | omega)])) <;> first | assumption | rfl) (by rfl) (by omega) (by omega) (by assumption) d_Cs_markBegun_17 ?_
      refine aw_iconstN (pc := 18) X 1 d_Cs_markBegun_18 (by decide) ?_
      refine aw_putNO (pc := 19) X _ 5 (by omega) (by (repeat (first | rw [aw_up_eq] | rw [aw_up_ne _ _ (by first | assumption | omega)])) <;> first | assumption | rfl) (by rfl) in_Ca (by decide) ty_Ca ok_Ca nm_Ca k_292 (by rfl) (by decide +kernel) (by decide +kernel) (by simp) (fs' := [_, _, _, _, _, _]) (by rfl) d_Cs_markBegun_19 ?_
      refine aw_vret Y X rfl d_Cs_markBegun_22 (by omega) (by omega) (hP _ _ _ ?_)
      -- ret 22 lv=0:r st=
      generalize hw3 : aw_up w (321 + 7 * c.length) _ = w3
      have f3 : fr (321 + 7 * c.length) (321 + 7 * c.length + 1) w w3 := by rw [← hw3]; exact (fr.refl _ _ _).up _ (by omega)
      refine ⟨rfl, rfl, h0.upd (v := (u.1, u.2.1, u.2.2.1, true)) (st := st) (a3.keep f3 (by omega)) ⟨by rw [← hw3]; exact aw_up_eq _ _ _, b1.2.1.keep f3 (by omega), (f3 _ (by omega)).trans b1.2.2⟩ b2 b3 b4 hok (fun x hx => f3 x (by omega)), f3.mono (by omega) (by omega)⟩
end

