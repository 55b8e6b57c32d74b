/-! RescanDesk: the state of the desk; write, finish, begin, type, clear, count -/
def y_Rd_init : MethodName := ⟨"RescanDesk", "<init>", "()V"⟩
abbrev b_Rd_init : ByteArray := prog_1_method_1_code
theorem d_Rd_init_0 : decode b_Rd_init 0 = .ok (.aload_n 0, 1) := by decide +kernel
theorem d_Rd_init_1 : decode b_Rd_init 1 = .ok (.invokespecial 1, 3) := by decide +kernel
theorem d_Rd_init_4 : decode b_Rd_init 4 = .ok (.aload_n 0, 1) := by decide +kernel
theorem d_Rd_init_5 : decode b_Rd_init 5 = .ok (.new 7, 3) := by decide +kernel
theorem d_Rd_init_8 : decode b_Rd_init 8 = .ok (.dup, 1) := by decide +kernel
theorem d_Rd_init_9 : decode b_Rd_init 9 = .ok (.sipush 300, 3) := by decide +kernel
theorem d_Rd_init_12 : decode b_Rd_init 12 = .ok (.invokespecial 11, 3) := by decide +kernel
theorem d_Rd_init_15 : decode b_Rd_init 15 = .ok (.putfield 14, 3) := by decide +kernel
theorem d_Rd_init_18 : decode b_Rd_init 18 = .ok (.aload_n 0, 1) := by decide +kernel
theorem d_Rd_init_19 : decode b_Rd_init 19 = .ok (.new 18, 3) := by decide +kernel
theorem d_Rd_init_22 : decode b_Rd_init 22 = .ok (.dup, 1) := by decide +kernel
theorem d_Rd_init_23 : decode b_Rd_init 23 = .ok (.invokespecial 20, 3) := by decide +kernel
theorem d_Rd_init_26 : decode b_Rd_init 26 = .ok (.putfield 21, 3) := by decide +kernel
theorem d_Rd_init_29 : decode b_Rd_init 29 = .ok (.aload_n 0, 1) := by decide +kernel
theorem d_Rd_init_30 : decode b_Rd_init 30 = .ok (.new 25, 3) := by decide +kernel
theorem d_Rd_init_33 : decode b_Rd_init 33 = .ok (.dup, 1) := by decide +kernel
theorem d_Rd_init_34 : decode b_Rd_init 34 = .ok (.invokespecial 27, 3) := by decide +kernel
theorem d_Rd_init_37 : decode b_Rd_init 37 = .ok (.putfield 28, 3) := by decide +kernel
theorem d_Rd_init_40 : decode b_Rd_init 40 = .ok (.aload_n 0, 1) := by decide +kernel
theorem d_Rd_init_41 : decode b_Rd_init 41 = .ok (.new 32, 3) := by decide +kernel
theorem d_Rd_init_44 : decode b_Rd_init 44 = .ok (.dup, 1) := by decide +kernel
theorem d_Rd_init_45 : decode b_Rd_init 45 = .ok (.invokespecial 34, 3) := by decide +kernel
theorem d_Rd_init_48 : decode b_Rd_init 48 = .ok (.putfield 35, 3) := by decide +kernel
theorem d_Rd_init_51 : decode b_Rd_init 51 = .ok (.aload_n 0, 1) := by decide +kernel
theorem d_Rd_init_52 : decode b_Rd_init 52 = .ok (.new 39, 3) := by decide +kernel
theorem d_Rd_init_55 : decode b_Rd_init 55 = .ok (.dup, 1) := by decide +kernel
theorem d_Rd_init_56 : decode b_Rd_init 56 = .ok (.invokespecial 41, 3) := by decide +kernel
theorem d_Rd_init_59 : decode b_Rd_init 59 = .ok (.putfield 42, 3) := by decide +kernel
theorem d_Rd_init_62 : decode b_Rd_init 62 = .ok (.aload_n 0, 1) := by decide +kernel
theorem d_Rd_init_63 : decode b_Rd_init 63 = .ok (.new 46, 3) := by decide +kernel
theorem d_Rd_init_66 : decode b_Rd_init 66 = .ok (.dup, 1) := by decide +kernel
theorem d_Rd_init_67 : decode b_Rd_init 67 = .ok (.aload_n 0, 1) := by decide +kernel
theorem d_Rd_init_68 : decode b_Rd_init 68 = .ok (.getfield 21, 3) := by decide +kernel
theorem d_Rd_init_71 : decode b_Rd_init 71 = .ok (.aload_n 0, 1) := by decide +kernel
theorem d_Rd_init_72 : decode b_Rd_init 72 = .ok (.getfield 28, 3) := by decide +kernel
theorem d_Rd_init_75 : decode b_Rd_init 75 = .ok (.aload_n 0, 1) := by decide +kernel
theorem d_Rd_init_76 : decode b_Rd_init 76 = .ok (.getfield 35, 3) := by decide +kernel
theorem d_Rd_init_79 : decode b_Rd_init 79 = .ok (.invokespecial 48, 3) := by decide +kernel
theorem d_Rd_init_82 : decode b_Rd_init 82 = .ok (.putfield 51, 3) := by decide +kernel
theorem d_Rd_init_85 : decode b_Rd_init 85 = .ok (.aload_n 0, 1) := by decide +kernel
theorem d_Rd_init_86 : decode b_Rd_init 86 = .ok (.aconst_null, 1) := by decide +kernel
theorem d_Rd_init_87 : decode b_Rd_init 87 = .ok (.putfield 55, 3) := by decide +kernel
theorem d_Rd_init_90 : decode b_Rd_init 90 = .ok (.aload_n 0, 1) := by decide +kernel
theorem d_Rd_init_91 : decode b_Rd_init 91 = .ok (.iconst 0, 1) := by decide +kernel
theorem d_Rd_init_92 : decode b_Rd_init 92 = .ok (.putfield 59, 3) := by decide +kernel
theorem d_Rd_init_95 : decode b_Rd_init 95 = .ok (.return_, 1) := by decide +kernel
theorem q_Rd_init : aw_q1 y_Rd_init b_Rd_init 1 none 0 := ⟨k_92, k_63, ⟨by decide, by decide, by decide +kernel⟩, by decide⟩
def y_Rd_type : MethodName := ⟨"RescanDesk", "type", "(C)Z"⟩
abbrev b_Rd_type : ByteArray := prog_1_method_2_code
theorem d_Rd_type_0 : decode b_Rd_type 0 = .ok (.aload_n 0, 1) := by decide +kernel
theorem d_Rd_type_1 : decode b_Rd_type 1 = .ok (.getfield 14, 3) := by decide +kernel
theorem d_Rd_type_4 : decode b_Rd_type 4 = .ok (.iload_n 1, 1) := by decide +kernel
theorem d_Rd_type_5 : decode b_Rd_type 5 = .ok (.invokevirtual 63, 3) := by decide +kernel
theorem d_Rd_type_8 : decode b_Rd_type 8 = .ok (.ireturn, 1) := by decide +kernel
theorem q_Rd_type : aw_q1 y_Rd_type b_Rd_type 2 (some .boolean) 1 := ⟨k_400, k_63, ⟨by decide, by decide, by decide +kernel⟩, by decide⟩
def y_Rd_clear : MethodName := ⟨"RescanDesk", "clear", "()I"⟩
abbrev b_Rd_clear : ByteArray := prog_1_method_3_code
theorem d_Rd_clear_0 : decode b_Rd_clear 0 = .ok (.aload_n 0, 1) := by decide +kernel
theorem d_Rd_clear_1 : decode b_Rd_clear 1 = .ok (.getfield 14, 3) := by decide +kernel
theorem d_Rd_clear_4 : decode b_Rd_clear 4 = .ok (.getfield 67, 3) := by decide +kernel
theorem d_Rd_clear_7 : decode b_Rd_clear 7 = .ok (.istore_n 1, 1) := by decide +kernel
theorem d_Rd_clear_8 : decode b_Rd_clear 8 = .ok (.aload_n 0, 1) := by decide +kernel
theorem d_Rd_clear_9 : decode b_Rd_clear 9 = .ok (.getfield 14, 3) := by decide +kernel
theorem d_Rd_clear_12 : decode b_Rd_clear 12 = .ok (.invokevirtual 70, 3) := by decide +kernel
theorem d_Rd_clear_15 : decode b_Rd_clear 15 = .ok (.iload_n 1, 1) := by decide +kernel
theorem d_Rd_clear_16 : decode b_Rd_clear 16 = .ok (.ireturn, 1) := by decide +kernel
theorem q_Rd_clear : aw_q1 y_Rd_clear b_Rd_clear 2 (some .int) 0 := ⟨k_405, k_63, ⟨by decide, by decide, by decide +kernel⟩, by decide⟩
def y_Rd_run : MethodName := ⟨"RescanDesk", "run", "(I)I"⟩
abbrev b_Rd_run : ByteArray := prog_1_method_4_code
theorem d_Rd_run_0 : decode b_Rd_run 0 = .ok (.iload_n 1, 1) := by decide +kernel
theorem d_Rd_run_1 : decode b_Rd_run 1 = .ok (.ifCond .lt 10, 3) := by decide +kernel
theorem d_Rd_run_4 : decode b_Rd_run 4 = .ok (.iload_n 1, 1) := by decide +kernel
theorem d_Rd_run_5 : decode b_Rd_run 5 = .ok (.sipush 5000, 3) := by decide +kernel
theorem d_Rd_run_8 : decode b_Rd_run 8 = .ok (.if_icmp .le 11, 3) := by decide +kernel
theorem d_Rd_run_11 : decode b_Rd_run 11 = .ok (.new 73, 3) := by decide +kernel
theorem d_Rd_run_14 : decode b_Rd_run 14 = .ok (.dup, 1) := by decide +kernel
theorem d_Rd_run_15 : decode b_Rd_run 15 = .ok (.invokespecial 75, 3) := by decide +kernel
theorem d_Rd_run_18 : decode b_Rd_run 18 = .ok (.athrow, 1) := by decide +kernel
theorem d_Rd_run_19 : decode b_Rd_run 19 = .ok (.aload_n 0, 1) := by decide +kernel
theorem d_Rd_run_20 : decode b_Rd_run 20 = .ok (.invokevirtual 76, 3) := by decide +kernel
theorem d_Rd_run_23 : decode b_Rd_run 23 = .ok (.iconst 0, 1) := by decide +kernel
theorem d_Rd_run_24 : decode b_Rd_run 24 = .ok (.istore_n 2, 1) := by decide +kernel
theorem d_Rd_run_25 : decode b_Rd_run 25 = .ok (.iload_n 2, 1) := by decide +kernel
theorem d_Rd_run_26 : decode b_Rd_run 26 = .ok (.ifCond .ne 67, 3) := by decide +kernel
theorem d_Rd_run_29 : decode b_Rd_run 29 = .ok (.aload_n 0, 1) := by decide +kernel
theorem d_Rd_run_30 : decode b_Rd_run 30 = .ok (.getfield 21, 3) := by decide +kernel
theorem d_Rd_run_33 : decode b_Rd_run 33 = .ok (.invokevirtual 79, 3) := by decide +kernel
theorem d_Rd_run_36 : decode b_Rd_run 36 = .ok (.ifCond .le 57, 3) := by decide +kernel
theorem d_Rd_run_39 : decode b_Rd_run 39 = .ok (.aload_n 0, 1) := by decide +kernel
theorem d_Rd_run_40 : decode b_Rd_run 40 = .ok (.getfield 59, 3) := by decide +kernel
theorem d_Rd_run_43 : decode b_Rd_run 43 = .ok (.iload_n 1, 1) := by decide +kernel
theorem d_Rd_run_44 : decode b_Rd_run 44 = .ok (.if_icmp .ge 49, 3) := by decide +kernel
theorem d_Rd_run_47 : decode b_Rd_run 47 = .ok (.aload_n 0, 1) := by decide +kernel
theorem d_Rd_run_48 : decode b_Rd_run 48 = .ok (.dup, 1) := by decide +kernel
theorem d_Rd_run_49 : decode b_Rd_run 49 = .ok (.getfield 59, 3) := by decide +kernel
theorem d_Rd_run_52 : decode b_Rd_run 52 = .ok (.iconst 1, 1) := by decide +kernel
theorem d_Rd_run_53 : decode b_Rd_run 53 = .ok (.iadd, 1) := by decide +kernel
theorem d_Rd_run_54 : decode b_Rd_run 54 = .ok (.putfield 59, 3) := by decide +kernel
theorem d_Rd_run_57 : decode b_Rd_run 57 = .ok (.aload_n 0, 1) := by decide +kernel
theorem d_Rd_run_58 : decode b_Rd_run 58 = .ok (.aconst_null, 1) := by decide +kernel
theorem d_Rd_run_59 : decode b_Rd_run 59 = .ok (.putfield 55, 3) := by decide +kernel
theorem d_Rd_run_62 : decode b_Rd_run 62 = .ok (.aload_n 0, 1) := by decide +kernel
theorem d_Rd_run_63 : decode b_Rd_run 63 = .ok (.invokevirtual 82, 3) := by decide +kernel
theorem d_Rd_run_66 : decode b_Rd_run 66 = .ok (.istore_n 2, 1) := by decide +kernel
theorem d_Rd_run_67 : decode b_Rd_run 67 = .ok (.iload_n 2, 1) := by decide +kernel
theorem d_Rd_run_68 : decode b_Rd_run 68 = .ok (.ifCond .ne (-43), 3) := by decide +kernel
theorem d_Rd_run_71 : decode b_Rd_run 71 = .ok (.aload_n 0, 1) := by decide +kernel
theorem d_Rd_run_72 : decode b_Rd_run 72 = .ok (.getfield 55, 3) := by decide +kernel
theorem d_Rd_run_75 : decode b_Rd_run 75 = .ok (.ifnull (-50), 3) := by decide +kernel
theorem d_Rd_run_78 : decode b_Rd_run 78 = .ok (.aload_n 0, 1) := by decide +kernel
theorem d_Rd_run_79 : decode b_Rd_run 79 = .ok (.getfield 51, 3) := by decide +kernel
theorem d_Rd_run_82 : decode b_Rd_run 82 = .ok (.aload_n 0, 1) := by decide +kernel
theorem d_Rd_run_83 : decode b_Rd_run 83 = .ok (.getfield 55, 3) := by decide +kernel
theorem d_Rd_run_86 : decode b_Rd_run 86 = .ok (.invokevirtual 85, 3) := by decide +kernel
theorem d_Rd_run_89 : decode b_Rd_run 89 = .ok (.istore_n 2, 1) := by decide +kernel
theorem d_Rd_run_90 : decode b_Rd_run 90 = .ok (.goto (-65), 3) := by decide +kernel
theorem d_Rd_run_93 : decode b_Rd_run 93 = .ok (.iload_n 2, 1) := by decide +kernel
theorem d_Rd_run_94 : decode b_Rd_run 94 = .ok (.ifCond .eq 5, 3) := by decide +kernel
theorem d_Rd_run_97 : decode b_Rd_run 97 = .ok (.iload_n 2, 1) := by decide +kernel
theorem d_Rd_run_98 : decode b_Rd_run 98 = .ok (.ireturn, 1) := by decide +kernel
theorem d_Rd_run_99 : decode b_Rd_run 99 = .ok (.aload_n 0, 1) := by decide +kernel
theorem d_Rd_run_100 : decode b_Rd_run 100 = .ok (.getfield 21, 3) := by decide +kernel
theorem d_Rd_run_103 : decode b_Rd_run 103 = .ok (.invokevirtual 79, 3) := by decide +kernel
theorem d_Rd_run_106 : decode b_Rd_run 106 = .ok (.ifCond .le 7, 3) := by decide +kernel
theorem d_Rd_run_109 : decode b_Rd_run 109 = .ok (.iconst 1, 1) := by decide +kernel
theorem d_Rd_run_110 : decode b_Rd_run 110 = .ok (.goto 7, 3) := by decide +kernel
theorem d_Rd_run_113 : decode b_Rd_run 113 = .ok (.aload_n 0, 1) := by decide +kernel
theorem d_Rd_run_114 : decode b_Rd_run 114 = .ok (.invokevirtual 89, 3) := by decide +kernel
theorem d_Rd_run_117 : decode b_Rd_run 117 = .ok (.ireturn, 1) := by decide +kernel
theorem q_Rd_run : aw_q1 y_Rd_run b_Rd_run 3 (some .int) 1 := ⟨k_434, k_63, ⟨by decide, by decide, by decide +kernel⟩, by decide⟩
def y_Rd_output : MethodName := ⟨"RescanDesk", "output", "(II)C"⟩
abbrev b_Rd_output : ByteArray := prog_1_method_5_code
theorem d_Rd_output_0 : decode b_Rd_output 0 = .ok (.iload_n 1, 1) := by decide +kernel
theorem d_Rd_output_1 : decode b_Rd_output 1 = .ok (.ifCond .lt 8, 3) := by decide +kernel
theorem d_Rd_output_4 : decode b_Rd_output 4 = .ok (.iload_n 1, 1) := by decide +kernel
theorem d_Rd_output_5 : decode b_Rd_output 5 = .ok (.iconst 4, 1) := by decide +kernel
theorem d_Rd_output_6 : decode b_Rd_output 6 = .ok (.if_icmp .lt 11, 3) := by decide +kernel
theorem d_Rd_output_9 : decode b_Rd_output 9 = .ok (.new 73, 3) := by decide +kernel
theorem d_Rd_output_12 : decode b_Rd_output 12 = .ok (.dup, 1) := by decide +kernel
theorem d_Rd_output_13 : decode b_Rd_output 13 = .ok (.invokespecial 75, 3) := by decide +kernel
theorem d_Rd_output_16 : decode b_Rd_output 16 = .ok (.athrow, 1) := by decide +kernel
theorem d_Rd_output_17 : decode b_Rd_output 17 = .ok (.aload_n 0, 1) := by decide +kernel
theorem d_Rd_output_18 : decode b_Rd_output 18 = .ok (.getfield 28, 3) := by decide +kernel
theorem d_Rd_output_21 : decode b_Rd_output 21 = .ok (.getfield 92, 3) := by decide +kernel
theorem d_Rd_output_24 : decode b_Rd_output 24 = .ok (.iload_n 1, 1) := by decide +kernel
theorem d_Rd_output_25 : decode b_Rd_output 25 = .ok (.aaload, 1) := by decide +kernel
theorem d_Rd_output_26 : decode b_Rd_output 26 = .ok (.astore_n 3, 1) := by decide +kernel
theorem d_Rd_output_27 : decode b_Rd_output 27 = .ok (.iload_n 2, 1) := by decide +kernel
theorem d_Rd_output_28 : decode b_Rd_output 28 = .ok (.ifCond .lt 11, 3) := by decide +kernel
theorem d_Rd_output_31 : decode b_Rd_output 31 = .ok (.iload_n 2, 1) := by decide +kernel
theorem d_Rd_output_32 : decode b_Rd_output 32 = .ok (.aload_n 3, 1) := by decide +kernel
theorem d_Rd_output_33 : decode b_Rd_output 33 = .ok (.getfield 67, 3) := by decide +kernel
theorem d_Rd_output_36 : decode b_Rd_output 36 = .ok (.if_icmp .lt 11, 3) := by decide +kernel
theorem d_Rd_output_39 : decode b_Rd_output 39 = .ok (.new 96, 3) := by decide +kernel
theorem d_Rd_output_42 : decode b_Rd_output 42 = .ok (.dup, 1) := by decide +kernel
theorem d_Rd_output_43 : decode b_Rd_output 43 = .ok (.invokespecial 98, 3) := by decide +kernel
theorem d_Rd_output_46 : decode b_Rd_output 46 = .ok (.athrow, 1) := by decide +kernel
theorem d_Rd_output_47 : decode b_Rd_output 47 = .ok (.aload_n 3, 1) := by decide +kernel
theorem d_Rd_output_48 : decode b_Rd_output 48 = .ok (.getfield 99, 3) := by decide +kernel
theorem d_Rd_output_51 : decode b_Rd_output 51 = .ok (.iload_n 2, 1) := by decide +kernel
theorem d_Rd_output_52 : decode b_Rd_output 52 = .ok (.caload, 1) := by decide +kernel
theorem d_Rd_output_53 : decode b_Rd_output 53 = .ok (.ireturn, 1) := by decide +kernel
theorem q_Rd_output : aw_q1 y_Rd_output b_Rd_output 4 (some .char) 2 := ⟨k_820, k_63, ⟨by decide, by decide, by decide +kernel⟩, by decide⟩
def y_Rd_count : MethodName := ⟨"RescanDesk", "count", "(I)I"⟩
abbrev b_Rd_count : ByteArray := prog_1_method_6_code
theorem d_Rd_count_0 : decode b_Rd_count 0 = .ok (.iload_n 1, 1) := by decide +kernel
theorem d_Rd_count_1 : decode b_Rd_count 1 = .ok (.ifCond .lt 21, 3) := by decide +kernel
theorem d_Rd_count_4 : decode b_Rd_count 4 = .ok (.iload_n 1, 1) := by decide +kernel
theorem d_Rd_count_5 : decode b_Rd_count 5 = .ok (.iconst 4, 1) := by decide +kernel
theorem d_Rd_count_6 : decode b_Rd_count 6 = .ok (.if_icmp .ge 16, 3) := by decide +kernel
theorem d_Rd_count_9 : decode b_Rd_count 9 = .ok (.aload_n 0, 1) := by decide +kernel
theorem d_Rd_count_10 : decode b_Rd_count 10 = .ok (.getfield 28, 3) := by decide +kernel
theorem d_Rd_count_13 : decode b_Rd_count 13 = .ok (.getfield 92, 3) := by decide +kernel
theorem d_Rd_count_16 : decode b_Rd_count 16 = .ok (.iload_n 1, 1) := by decide +kernel
theorem d_Rd_count_17 : decode b_Rd_count 17 = .ok (.aaload, 1) := by decide +kernel
theorem d_Rd_count_18 : decode b_Rd_count 18 = .ok (.getfield 67, 3) := by decide +kernel
theorem d_Rd_count_21 : decode b_Rd_count 21 = .ok (.ireturn, 1) := by decide +kernel
theorem d_Rd_count_22 : decode b_Rd_count 22 = .ok (.iload_n 1, 1) := by decide +kernel
theorem d_Rd_count_23 : decode b_Rd_count 23 = .ok (.tableswitch 82 4 9 #[37, 45, 53, 58, 66, 74], 37) := by decide +kernel
theorem d_Rd_count_60 : decode b_Rd_count 60 = .ok (.aload_n 0, 1) := by decide +kernel
theorem d_Rd_count_61 : decode b_Rd_count 61 = .ok (.getfield 35, 3) := by decide +kernel
theorem d_Rd_count_64 : decode b_Rd_count 64 = .ok (.getfield 103, 3) := by decide +kernel
theorem d_Rd_count_67 : decode b_Rd_count 67 = .ok (.ireturn, 1) := by decide +kernel
theorem d_Rd_count_68 : decode b_Rd_count 68 = .ok (.aload_n 0, 1) := by decide +kernel
theorem d_Rd_count_69 : decode b_Rd_count 69 = .ok (.getfield 35, 3) := by decide +kernel
theorem d_Rd_count_72 : decode b_Rd_count 72 = .ok (.invokevirtual 106, 3) := by decide +kernel
theorem d_Rd_count_75 : decode b_Rd_count 75 = .ok (.ireturn, 1) := by decide +kernel
theorem d_Rd_count_76 : decode b_Rd_count 76 = .ok (.aload_n 0, 1) := by decide +kernel
theorem d_Rd_count_77 : decode b_Rd_count 77 = .ok (.getfield 59, 3) := by decide +kernel
theorem d_Rd_count_80 : decode b_Rd_count 80 = .ok (.ireturn, 1) := by decide +kernel
theorem d_Rd_count_81 : decode b_Rd_count 81 = .ok (.aload_n 0, 1) := by decide +kernel
theorem d_Rd_count_82 : decode b_Rd_count 82 = .ok (.getfield 42, 3) := by decide +kernel
theorem d_Rd_count_85 : decode b_Rd_count 85 = .ok (.getfield 109, 3) := by decide +kernel
theorem d_Rd_count_88 : decode b_Rd_count 88 = .ok (.ireturn, 1) := by decide +kernel
theorem d_Rd_count_89 : decode b_Rd_count 89 = .ok (.aload_n 0, 1) := by decide +kernel
theorem d_Rd_count_90 : decode b_Rd_count 90 = .ok (.getfield 21, 3) := by decide +kernel
theorem d_Rd_count_93 : decode b_Rd_count 93 = .ok (.invokevirtual 79, 3) := by decide +kernel
theorem d_Rd_count_96 : decode b_Rd_count 96 = .ok (.ireturn, 1) := by decide +kernel
theorem d_Rd_count_97 : decode b_Rd_count 97 = .ok (.aload_n 0, 1) := by decide +kernel
theorem d_Rd_count_98 : decode b_Rd_count 98 = .ok (.getfield 28, 3) := by decide +kernel
theorem d_Rd_count_101 : decode b_Rd_count 101 = .ok (.getfield 112, 3) := by decide +kernel
theorem d_Rd_count_104 : decode b_Rd_count 104 = .ok (.ireturn, 1) := by decide +kernel
theorem d_Rd_count_105 : decode b_Rd_count 105 = .ok (.iconst (-1), 1) := by decide +kernel
theorem d_Rd_count_106 : decode b_Rd_count 106 = .ok (.ireturn, 1) := by decide +kernel
theorem q_Rd_count : aw_q1 y_Rd_count b_Rd_count 2 (some .int) 1 := ⟨k_410, k_63, ⟨by decide, by decide, by decide +kernel⟩, by decide⟩
def y_Rd_begin : MethodName := ⟨"RescanDesk", "begin", "()V"⟩
abbrev b_Rd_begin : ByteArray := prog_1_method_7_code
theorem d_Rd_begin_0 : decode b_Rd_begin 0 = .ok (.aload_n 0, 1) := by decide +kernel
theorem d_Rd_begin_1 : decode b_Rd_begin 1 = .ok (.getfield 21, 3) := by decide +kernel
theorem d_Rd_begin_4 : decode b_Rd_begin 4 = .ok (.aload_n 0, 1) := by decide +kernel
theorem d_Rd_begin_5 : decode b_Rd_begin 5 = .ok (.getfield 14, 3) := by decide +kernel
theorem d_Rd_begin_8 : decode b_Rd_begin 8 = .ok (.invokevirtual 115, 3) := by decide +kernel
theorem d_Rd_begin_11 : decode b_Rd_begin 11 = .ok (.aload_n 0, 1) := by decide +kernel
theorem d_Rd_begin_12 : decode b_Rd_begin 12 = .ok (.getfield 14, 3) := by decide +kernel
theorem d_Rd_begin_15 : decode b_Rd_begin 15 = .ok (.invokevirtual 70, 3) := by decide +kernel
theorem d_Rd_begin_18 : decode b_Rd_begin 18 = .ok (.aload_n 0, 1) := by decide +kernel
theorem d_Rd_begin_19 : decode b_Rd_begin 19 = .ok (.getfield 28, 3) := by decide +kernel
theorem d_Rd_begin_22 : decode b_Rd_begin 22 = .ok (.invokevirtual 119, 3) := by decide +kernel
theorem d_Rd_begin_25 : decode b_Rd_begin 25 = .ok (.aload_n 0, 1) := by decide +kernel
theorem d_Rd_begin_26 : decode b_Rd_begin 26 = .ok (.getfield 42, 3) := by decide +kernel
theorem d_Rd_begin_29 : decode b_Rd_begin 29 = .ok (.invokevirtual 120, 3) := by decide +kernel
theorem d_Rd_begin_32 : decode b_Rd_begin 32 = .ok (.aload_n 0, 1) := by decide +kernel
theorem d_Rd_begin_33 : decode b_Rd_begin 33 = .ok (.iconst 0, 1) := by decide +kernel
theorem d_Rd_begin_34 : decode b_Rd_begin 34 = .ok (.putfield 59, 3) := by decide +kernel
theorem d_Rd_begin_37 : decode b_Rd_begin 37 = .ok (.return_, 1) := by decide +kernel
theorem q_Rd_begin : aw_q1 y_Rd_begin b_Rd_begin 1 none 0 := ⟨k_500, k_63, ⟨by decide, by decide, by decide +kernel⟩, by decide⟩
def y_Rd_finish : MethodName := ⟨"RescanDesk", "finish", "()I"⟩
abbrev b_Rd_finish : ByteArray := prog_1_method_8_code
theorem d_Rd_finish_0 : decode b_Rd_finish 0 = .ok (.aload_n 0, 1) := by decide +kernel
theorem d_Rd_finish_1 : decode b_Rd_finish 1 = .ok (.getfield 42, 3) := by decide +kernel
theorem d_Rd_finish_4 : decode b_Rd_finish 4 = .ok (.getfield 121, 3) := by decide +kernel
theorem d_Rd_finish_7 : decode b_Rd_finish 7 = .ok (.ifCond .le 5, 3) := by decide +kernel
theorem d_Rd_finish_10 : decode b_Rd_finish 10 = .ok (.iconst 4, 1) := by decide +kernel
theorem d_Rd_finish_11 : decode b_Rd_finish 11 = .ok (.ireturn, 1) := by decide +kernel
theorem d_Rd_finish_12 : decode b_Rd_finish 12 = .ok (.aload_n 0, 1) := by decide +kernel
theorem d_Rd_finish_13 : decode b_Rd_finish 13 = .ok (.getfield 28, 3) := by decide +kernel
theorem d_Rd_finish_16 : decode b_Rd_finish 16 = .ok (.invokevirtual 124, 3) := by decide +kernel
theorem d_Rd_finish_19 : decode b_Rd_finish 19 = .ok (.ifCond .eq 7, 3) := by decide +kernel
theorem d_Rd_finish_22 : decode b_Rd_finish 22 = .ok (.iconst 0, 1) := by decide +kernel
theorem d_Rd_finish_23 : decode b_Rd_finish 23 = .ok (.goto 4, 3) := by decide +kernel
theorem d_Rd_finish_26 : decode b_Rd_finish 26 = .ok (.iconst 2, 1) := by decide +kernel
theorem d_Rd_finish_27 : decode b_Rd_finish 27 = .ok (.ireturn, 1) := by decide +kernel
theorem q_Rd_finish : aw_q1 y_Rd_finish b_Rd_finish 1 (some .int) 0 := ⟨k_807, k_63, ⟨by decide, by decide, by decide +kernel⟩, by decide⟩
def y_Rd_read : MethodName := ⟨"RescanDesk", "read", "()I"⟩
abbrev b_Rd_read : ByteArray := prog_1_method_9_code
theorem d_Rd_read_0 : decode b_Rd_read 0 = .ok (.aload_n 0, 1) := by decide +kernel
theorem d_Rd_read_1 : decode b_Rd_read 1 = .ok (.getfield 21, 3) := by decide +kernel
theorem d_Rd_read_4 : decode b_Rd_read 4 = .ok (.getfield 128, 3) := by decide +kernel
theorem d_Rd_read_7 : decode b_Rd_read 7 = .ok (.aload_n 0, 1) := by decide +kernel
theorem d_Rd_read_8 : decode b_Rd_read 8 = .ok (.getfield 21, 3) := by decide +kernel
theorem d_Rd_read_11 : decode b_Rd_read 11 = .ok (.getfield 129, 3) := by decide +kernel
theorem d_Rd_read_14 : decode b_Rd_read 14 = .ok (.caload, 1) := by decide +kernel
theorem d_Rd_read_15 : decode b_Rd_read 15 = .ok (.istore_n 1, 1) := by decide +kernel
theorem d_Rd_read_16 : decode b_Rd_read 16 = .ok (.iload_n 1, 1) := by decide +kernel
theorem d_Rd_read_17 : decode b_Rd_read 17 = .ok (.bipush 96, 2) := by decide +kernel
theorem d_Rd_read_19 : decode b_Rd_read 19 = .ok (.if_icmp .ne 8, 3) := by decide +kernel
theorem d_Rd_read_22 : decode b_Rd_read 22 = .ok (.aload_n 0, 1) := by decide +kernel
theorem d_Rd_read_23 : decode b_Rd_read 23 = .ok (.invokevirtual 132, 3) := by decide +kernel
theorem d_Rd_read_26 : decode b_Rd_read 26 = .ok (.ireturn, 1) := by decide +kernel
theorem d_Rd_read_27 : decode b_Rd_read 27 = .ok (.iload_n 1, 1) := by decide +kernel
theorem d_Rd_read_28 : decode b_Rd_read 28 = .ok (.invokestatic 135, 3) := by decide +kernel
theorem d_Rd_read_31 : decode b_Rd_read 31 = .ok (.ifCond .eq 8, 3) := by decide +kernel
theorem d_Rd_read_34 : decode b_Rd_read 34 = .ok (.aload_n 0, 1) := by decide +kernel
theorem d_Rd_read_35 : decode b_Rd_read 35 = .ok (.invokevirtual 138, 3) := by decide +kernel
theorem d_Rd_read_38 : decode b_Rd_read 38 = .ok (.ireturn, 1) := by decide +kernel
theorem d_Rd_read_39 : decode b_Rd_read 39 = .ok (.aload_n 0, 1) := by decide +kernel
theorem d_Rd_read_40 : decode b_Rd_read 40 = .ok (.getfield 21, 3) := by decide +kernel
theorem d_Rd_read_43 : decode b_Rd_read 43 = .ok (.dup, 1) := by decide +kernel
theorem d_Rd_read_44 : decode b_Rd_read 44 = .ok (.getfield 129, 3) := by decide +kernel
theorem d_Rd_read_47 : decode b_Rd_read 47 = .ok (.iconst 1, 1) := by decide +kernel
theorem d_Rd_read_48 : decode b_Rd_read 48 = .ok (.iadd, 1) := by decide +kernel
theorem d_Rd_read_49 : decode b_Rd_read 49 = .ok (.putfield 129, 3) := by decide +kernel
theorem d_Rd_read_52 : decode b_Rd_read 52 = .ok (.aload_n 0, 1) := by decide +kernel
theorem d_Rd_read_53 : decode b_Rd_read 53 = .ok (.getfield 42, 3) := by decide +kernel
theorem d_Rd_read_56 : decode b_Rd_read 56 = .ok (.invokevirtual 141, 3) := by decide +kernel
theorem d_Rd_read_59 : decode b_Rd_read 59 = .ok (.astore_n 2, 1) := by decide +kernel
theorem d_Rd_read_60 : decode b_Rd_read 60 = .ok (.aload_n 2, 1) := by decide +kernel
theorem d_Rd_read_61 : decode b_Rd_read 61 = .ok (.ifnonnull 26, 3) := by decide +kernel
theorem d_Rd_read_64 : decode b_Rd_read 64 = .ok (.aload_n 0, 1) := by decide +kernel
theorem d_Rd_read_65 : decode b_Rd_read 65 = .ok (.aload_n 0, 1) := by decide +kernel
theorem d_Rd_read_66 : decode b_Rd_read 66 = .ok (.getfield 21, 3) := by decide +kernel
theorem d_Rd_read_69 : decode b_Rd_read 69 = .ok (.getfield 129, 3) := by decide +kernel
theorem d_Rd_read_72 : decode b_Rd_read 72 = .ok (.iconst 1, 1) := by decide +kernel
theorem d_Rd_read_73 : decode b_Rd_read 73 = .ok (.isub, 1) := by decide +kernel
theorem d_Rd_read_74 : decode b_Rd_read 74 = .ok (.aload_n 0, 1) := by decide +kernel
theorem d_Rd_read_75 : decode b_Rd_read 75 = .ok (.getfield 21, 3) := by decide +kernel
theorem d_Rd_read_78 : decode b_Rd_read 78 = .ok (.getfield 129, 3) := by decide +kernel
theorem d_Rd_read_81 : decode b_Rd_read 81 = .ok (.invokevirtual 145, 3) := by decide +kernel
theorem d_Rd_read_84 : decode b_Rd_read 84 = .ok (.goto 9, 3) := by decide +kernel
theorem d_Rd_read_87 : decode b_Rd_read 87 = .ok (.aload_n 0, 1) := by decide +kernel
theorem d_Rd_read_88 : decode b_Rd_read 88 = .ok (.aload_n 2, 1) := by decide +kernel
theorem d_Rd_read_89 : decode b_Rd_read 89 = .ok (.iload_n 1, 1) := by decide +kernel
theorem d_Rd_read_90 : decode b_Rd_read 90 = .ok (.invokevirtual 149, 3) := by decide +kernel
theorem d_Rd_read_93 : decode b_Rd_read 93 = .ok (.ireturn, 1) := by decide +kernel
theorem q_Rd_read : aw_q1 y_Rd_read b_Rd_read 3 (some .int) 0 := ⟨k_525, k_63, ⟨by decide, by decide, by decide +kernel⟩, by decide⟩
def y_Rd_readQuote : MethodName := ⟨"RescanDesk", "readQuote", "()I"⟩
abbrev b_Rd_readQuote : ByteArray := prog_1_method_10_code
theorem d_Rd_readQuote_0 : decode b_Rd_readQuote 0 = .ok (.aload_n 0, 1) := by decide +kernel
theorem d_Rd_readQuote_1 : decode b_Rd_readQuote 1 = .ok (.getfield 21, 3) := by decide +kernel
theorem d_Rd_readQuote_4 : decode b_Rd_readQuote 4 = .ok (.invokevirtual 153, 3) := by decide +kernel
theorem d_Rd_readQuote_7 : decode b_Rd_readQuote 7 = .ok (.istore_n 1, 1) := by decide +kernel
theorem d_Rd_readQuote_8 : decode b_Rd_readQuote 8 = .ok (.iload_n 1, 1) := by decide +kernel
theorem d_Rd_readQuote_9 : decode b_Rd_readQuote 9 = .ok (.iconst (-1), 1) := by decide +kernel
theorem d_Rd_readQuote_10 : decode b_Rd_readQuote 10 = .ok (.if_icmp .ne 5, 3) := by decide +kernel
theorem d_Rd_readQuote_13 : decode b_Rd_readQuote 13 = .ok (.iconst 3, 1) := by decide +kernel
theorem d_Rd_readQuote_14 : decode b_Rd_readQuote 14 = .ok (.ireturn, 1) := by decide +kernel
theorem d_Rd_readQuote_15 : decode b_Rd_readQuote 15 = .ok (.aload_n 0, 1) := by decide +kernel
theorem d_Rd_readQuote_16 : decode b_Rd_readQuote 16 = .ok (.getfield 21, 3) := by decide +kernel
theorem d_Rd_readQuote_19 : decode b_Rd_readQuote 19 = .ok (.getfield 129, 3) := by decide +kernel
theorem d_Rd_readQuote_22 : decode b_Rd_readQuote 22 = .ok (.iconst 1, 1) := by decide +kernel
theorem d_Rd_readQuote_23 : decode b_Rd_readQuote 23 = .ok (.iadd, 1) := by decide +kernel
theorem d_Rd_readQuote_24 : decode b_Rd_readQuote 24 = .ok (.istore_n 2, 1) := by decide +kernel
theorem d_Rd_readQuote_25 : decode b_Rd_readQuote 25 = .ok (.aload_n 0, 1) := by decide +kernel
theorem d_Rd_readQuote_26 : decode b_Rd_readQuote 26 = .ok (.getfield 21, 3) := by decide +kernel
theorem d_Rd_readQuote_29 : decode b_Rd_readQuote 29 = .ok (.iload_n 1, 1) := by decide +kernel
theorem d_Rd_readQuote_30 : decode b_Rd_readQuote 30 = .ok (.iconst 1, 1) := by decide +kernel
theorem d_Rd_readQuote_31 : decode b_Rd_readQuote 31 = .ok (.iadd, 1) := by decide +kernel
theorem d_Rd_readQuote_32 : decode b_Rd_readQuote 32 = .ok (.putfield 129, 3) := by decide +kernel
theorem d_Rd_readQuote_35 : decode b_Rd_readQuote 35 = .ok (.aload_n 0, 1) := by decide +kernel
theorem d_Rd_readQuote_36 : decode b_Rd_readQuote 36 = .ok (.getfield 42, 3) := by decide +kernel
theorem d_Rd_readQuote_39 : decode b_Rd_readQuote 39 = .ok (.invokevirtual 156, 3) := by decide +kernel
theorem d_Rd_readQuote_42 : decode b_Rd_readQuote 42 = .ok (.aload_n 0, 1) := by decide +kernel
theorem d_Rd_readQuote_43 : decode b_Rd_readQuote 43 = .ok (.iload_n 2, 1) := by decide +kernel
theorem d_Rd_readQuote_44 : decode b_Rd_readQuote 44 = .ok (.iload_n 1, 1) := by decide +kernel
theorem d_Rd_readQuote_45 : decode b_Rd_readQuote 45 = .ok (.invokevirtual 145, 3) := by decide +kernel
theorem d_Rd_readQuote_48 : decode b_Rd_readQuote 48 = .ok (.ireturn, 1) := by decide +kernel
theorem q_Rd_readQuote : aw_q1 y_Rd_readQuote b_Rd_readQuote 3 (some .int) 0 := ⟨k_529, k_63, ⟨by decide, by decide, by decide +kernel⟩, by decide⟩
def y_Rd_readName : MethodName := ⟨"RescanDesk", "readName", "()I"⟩
abbrev b_Rd_readName : ByteArray := prog_1_method_11_code
theorem d_Rd_readName_0 : decode b_Rd_readName 0 = .ok (.aload_n 0, 1) := by decide +kernel
theorem d_Rd_readName_1 : decode b_Rd_readName 1 = .ok (.getfield 21, 3) := by decide +kernel
theorem d_Rd_readName_4 : decode b_Rd_readName 4 = .ok (.getfield 129, 3) := by decide +kernel
theorem d_Rd_readName_7 : decode b_Rd_readName 7 = .ok (.istore_n 1, 1) := by decide +kernel
theorem d_Rd_readName_8 : decode b_Rd_readName 8 = .ok (.aload_n 0, 1) := by decide +kernel
theorem d_Rd_readName_9 : decode b_Rd_readName 9 = .ok (.getfield 21, 3) := by decide +kernel
theorem d_Rd_readName_12 : decode b_Rd_readName 12 = .ok (.getfield 128, 3) := by decide +kernel
theorem d_Rd_readName_15 : decode b_Rd_readName 15 = .ok (.iload_n 1, 1) := by decide +kernel
theorem d_Rd_readName_16 : decode b_Rd_readName 16 = .ok (.sipush 600, 3) := by decide +kernel
theorem d_Rd_readName_19 : decode b_Rd_readName 19 = .ok (.invokestatic 159, 3) := by decide +kernel
theorem d_Rd_readName_22 : decode b_Rd_readName 22 = .ok (.istore_n 2, 1) := by decide +kernel
theorem d_Rd_readName_23 : decode b_Rd_readName 23 = .ok (.aload_n 0, 1) := by decide +kernel
theorem d_Rd_readName_24 : decode b_Rd_readName 24 = .ok (.getfield 35, 3) := by decide +kernel
theorem d_Rd_readName_27 : decode b_Rd_readName 27 = .ok (.aload_n 0, 1) := by decide +kernel
theorem d_Rd_readName_28 : decode b_Rd_readName 28 = .ok (.getfield 21, 3) := by decide +kernel
theorem d_Rd_readName_31 : decode b_Rd_readName 31 = .ok (.getfield 128, 3) := by decide +kernel
theorem d_Rd_readName_34 : decode b_Rd_readName 34 = .ok (.iload_n 1, 1) := by decide +kernel
theorem d_Rd_readName_35 : decode b_Rd_readName 35 = .ok (.iload_n 2, 1) := by decide +kernel
theorem d_Rd_readName_36 : decode b_Rd_readName 36 = .ok (.invokevirtual 163, 3) := by decide +kernel
theorem d_Rd_readName_39 : decode b_Rd_readName 39 = .ok (.istore_n 3, 1) := by decide +kernel
theorem d_Rd_readName_40 : decode b_Rd_readName 40 = .ok (.aload_n 0, 1) := by decide +kernel
theorem d_Rd_readName_41 : decode b_Rd_readName 41 = .ok (.getfield 42, 3) := by decide +kernel
theorem d_Rd_readName_44 : decode b_Rd_readName 44 = .ok (.invokevirtual 156, 3) := by decide +kernel
theorem d_Rd_readName_47 : decode b_Rd_readName 47 = .ok (.aload_n 0, 1) := by decide +kernel
theorem d_Rd_readName_48 : decode b_Rd_readName 48 = .ok (.getfield 21, 3) := by decide +kernel
theorem d_Rd_readName_51 : decode b_Rd_readName 51 = .ok (.iload_n 2, 1) := by decide +kernel
theorem d_Rd_readName_52 : decode b_Rd_readName 52 = .ok (.putfield 129, 3) := by decide +kernel
theorem d_Rd_readName_55 : decode b_Rd_readName 55 = .ok (.iload_n 3, 1) := by decide +kernel
theorem d_Rd_readName_56 : decode b_Rd_readName 56 = .ok (.iconst (-1), 1) := by decide +kernel
theorem d_Rd_readName_57 : decode b_Rd_readName 57 = .ok (.if_icmp .ne 10, 3) := by decide +kernel
theorem d_Rd_readName_60 : decode b_Rd_readName 60 = .ok (.aload_n 0, 1) := by decide +kernel
theorem d_Rd_readName_61 : decode b_Rd_readName 61 = .ok (.iload_n 1, 1) := by decide +kernel
theorem d_Rd_readName_62 : decode b_Rd_readName 62 = .ok (.iload_n 2, 1) := by decide +kernel
theorem d_Rd_readName_63 : decode b_Rd_readName 63 = .ok (.invokevirtual 145, 3) := by decide +kernel
theorem d_Rd_readName_66 : decode b_Rd_readName 66 = .ok (.ireturn, 1) := by decide +kernel
theorem d_Rd_readName_67 : decode b_Rd_readName 67 = .ok (.aload_n 0, 1) := by decide +kernel
theorem d_Rd_readName_68 : decode b_Rd_readName 68 = .ok (.getfield 35, 3) := by decide +kernel
theorem d_Rd_readName_71 : decode b_Rd_readName 71 = .ok (.getfield 166, 3) := by decide +kernel
theorem d_Rd_readName_74 : decode b_Rd_readName 74 = .ok (.iload_n 3, 1) := by decide +kernel
theorem d_Rd_readName_75 : decode b_Rd_readName 75 = .ok (.aaload, 1) := by decide +kernel
theorem d_Rd_readName_76 : decode b_Rd_readName 76 = .ok (.astore 4, 2) := by decide +kernel
theorem d_Rd_readName_78 : decode b_Rd_readName 78 = .ok (.iload_n 2, 1) := by decide +kernel
theorem d_Rd_readName_79 : decode b_Rd_readName 79 = .ok (.sipush 600, 3) := by decide +kernel
theorem d_Rd_readName_82 : decode b_Rd_readName 82 = .ok (.if_icmp .ge 17, 3) := by decide +kernel
theorem d_Rd_readName_85 : decode b_Rd_readName 85 = .ok (.aload_n 0, 1) := by decide +kernel
theorem d_Rd_readName_86 : decode b_Rd_readName 86 = .ok (.getfield 21, 3) := by decide +kernel
theorem d_Rd_readName_89 : decode b_Rd_readName 89 = .ok (.getfield 128, 3) := by decide +kernel
theorem d_Rd_readName_92 : decode b_Rd_readName 92 = .ok (.iload_n 2, 1) := by decide +kernel
theorem d_Rd_readName_93 : decode b_Rd_readName 93 = .ok (.caload, 1) := by decide +kernel
theorem d_Rd_readName_94 : decode b_Rd_readName 94 = .ok (.bipush 40, 2) := by decide +kernel
theorem d_Rd_readName_96 : decode b_Rd_readName 96 = .ok (.if_icmp .eq 18, 3) := by decide +kernel
theorem d_Rd_readName_99 : decode b_Rd_readName 99 = .ok (.aload_n 0, 1) := by decide +kernel
theorem d_Rd_readName_100 : decode b_Rd_readName 100 = .ok (.aload_n 0, 1) := by decide +kernel
theorem d_Rd_readName_101 : decode b_Rd_readName 101 = .ok (.getfield 42, 3) := by decide +kernel
theorem d_Rd_readName_104 : decode b_Rd_readName 104 = .ok (.aload 4, 2) := by decide +kernel
theorem d_Rd_readName_106 : decode b_Rd_readName 106 = .ok (.invokevirtual 170, 3) := by decide +kernel
theorem d_Rd_readName_109 : decode b_Rd_readName 109 = .ok (.putfield 55, 3) := by decide +kernel
theorem d_Rd_readName_112 : decode b_Rd_readName 112 = .ok (.iconst 0, 1) := by decide +kernel
theorem d_Rd_readName_113 : decode b_Rd_readName 113 = .ok (.ireturn, 1) := by decide +kernel
theorem d_Rd_readName_114 : decode b_Rd_readName 114 = .ok (.aload_n 0, 1) := by decide +kernel
theorem d_Rd_readName_115 : decode b_Rd_readName 115 = .ok (.getfield 21, 3) := by decide +kernel
theorem d_Rd_readName_118 : decode b_Rd_readName 118 = .ok (.iload_n 2, 1) := by decide +kernel
theorem d_Rd_readName_119 : decode b_Rd_readName 119 = .ok (.iconst 1, 1) := by decide +kernel
theorem d_Rd_readName_120 : decode b_Rd_readName 120 = .ok (.iadd, 1) := by decide +kernel
theorem d_Rd_readName_121 : decode b_Rd_readName 121 = .ok (.putfield 129, 3) := by decide +kernel
theorem d_Rd_readName_124 : decode b_Rd_readName 124 = .ok (.aload_n 0, 1) := by decide +kernel
theorem d_Rd_readName_125 : decode b_Rd_readName 125 = .ok (.getfield 42, 3) := by decide +kernel
theorem d_Rd_readName_128 : decode b_Rd_readName 128 = .ok (.aload 4, 2) := by decide +kernel
theorem d_Rd_readName_130 : decode b_Rd_readName 130 = .ok (.invokevirtual 174, 3) := by decide +kernel
theorem d_Rd_readName_133 : decode b_Rd_readName 133 = .ok (.ifCond .eq 7, 3) := by decide +kernel
theorem d_Rd_readName_136 : decode b_Rd_readName 136 = .ok (.iconst 0, 1) := by decide +kernel
theorem d_Rd_readName_137 : decode b_Rd_readName 137 = .ok (.goto 4, 3) := by decide +kernel
theorem d_Rd_readName_140 : decode b_Rd_readName 140 = .ok (.iconst 2, 1) := by decide +kernel
theorem d_Rd_readName_141 : decode b_Rd_readName 141 = .ok (.ireturn, 1) := by decide +kernel
theorem q_Rd_readName : aw_q1 y_Rd_readName b_Rd_readName 5 (some .int) 0 := ⟨k_560, k_63, ⟨by decide, by decide, by decide +kernel⟩, by decide⟩
def y_Rd_readInCall : MethodName := ⟨"RescanDesk", "readInCall", "(LRescanDesk$Call;C)I"⟩
abbrev b_Rd_readInCall : ByteArray := prog_1_method_12_code
theorem d_Rd_readInCall_0 : decode b_Rd_readInCall 0 = .ok (.iload_n 2, 1) := by decide +kernel
theorem d_Rd_readInCall_1 : decode b_Rd_readInCall 1 = .ok (.bipush 41, 2) := by decide +kernel
theorem d_Rd_readInCall_3 : decode b_Rd_readInCall 3 = .ok (.if_icmp .ne 23, 3) := by decide +kernel
theorem d_Rd_readInCall_6 : decode b_Rd_readInCall 6 = .ok (.aload_n 1, 1) := by decide +kernel
theorem d_Rd_readInCall_7 : decode b_Rd_readInCall 7 = .ok (.getfield 177, 3) := by decide +kernel
theorem d_Rd_readInCall_10 : decode b_Rd_readInCall 10 = .ok (.ifCond .ne 16, 3) := by decide +kernel
theorem d_Rd_readInCall_13 : decode b_Rd_readInCall 13 = .ok (.aload_n 0, 1) := by decide +kernel
theorem d_Rd_readInCall_14 : decode b_Rd_readInCall 14 = .ok (.aload_n 0, 1) := by decide +kernel
theorem d_Rd_readInCall_15 : decode b_Rd_readInCall 15 = .ok (.getfield 42, 3) := by decide +kernel
theorem d_Rd_readInCall_18 : decode b_Rd_readInCall 18 = .ok (.invokevirtual 182, 3) := by decide +kernel
theorem d_Rd_readInCall_21 : decode b_Rd_readInCall 21 = .ok (.putfield 55, 3) := by decide +kernel
theorem d_Rd_readInCall_24 : decode b_Rd_readInCall 24 = .ok (.iconst 0, 1) := by decide +kernel
theorem d_Rd_readInCall_25 : decode b_Rd_readInCall 25 = .ok (.ireturn, 1) := by decide +kernel
theorem d_Rd_readInCall_26 : decode b_Rd_readInCall 26 = .ok (.iload_n 2, 1) := by decide +kernel
theorem d_Rd_readInCall_27 : decode b_Rd_readInCall 27 = .ok (.bipush 44, 2) := by decide +kernel
theorem d_Rd_readInCall_29 : decode b_Rd_readInCall 29 = .ok (.if_icmp .ne 27, 3) := by decide +kernel
theorem d_Rd_readInCall_32 : decode b_Rd_readInCall 32 = .ok (.aload_n 1, 1) := by decide +kernel
theorem d_Rd_readInCall_33 : decode b_Rd_readInCall 33 = .ok (.getfield 177, 3) := by decide +kernel
theorem d_Rd_readInCall_36 : decode b_Rd_readInCall 36 = .ok (.ifCond .ne 20, 3) := by decide +kernel
theorem d_Rd_readInCall_39 : decode b_Rd_readInCall 39 = .ok (.aload_n 0, 1) := by decide +kernel
theorem d_Rd_readInCall_40 : decode b_Rd_readInCall 40 = .ok (.getfield 42, 3) := by decide +kernel
theorem d_Rd_readInCall_43 : decode b_Rd_readInCall 43 = .ok (.aload_n 1, 1) := by decide +kernel
theorem d_Rd_readInCall_44 : decode b_Rd_readInCall 44 = .ok (.invokevirtual 185, 3) := by decide +kernel
theorem d_Rd_readInCall_47 : decode b_Rd_readInCall 47 = .ok (.ifCond .eq 7, 3) := by decide +kernel
theorem d_Rd_readInCall_50 : decode b_Rd_readInCall 50 = .ok (.iconst 0, 1) := by decide +kernel
theorem d_Rd_readInCall_51 : decode b_Rd_readInCall 51 = .ok (.goto 4, 3) := by decide +kernel
theorem d_Rd_readInCall_54 : decode b_Rd_readInCall 54 = .ok (.iconst 2, 1) := by decide +kernel
theorem d_Rd_readInCall_55 : decode b_Rd_readInCall 55 = .ok (.ireturn, 1) := by decide +kernel
theorem d_Rd_readInCall_56 : decode b_Rd_readInCall 56 = .ok (.iload_n 2, 1) := by decide +kernel
theorem d_Rd_readInCall_57 : decode b_Rd_readInCall 57 = .ok (.invokestatic 189, 3) := by decide +kernel
theorem d_Rd_readInCall_60 : decode b_Rd_readInCall 60 = .ok (.ifCond .eq 12, 3) := by decide +kernel
theorem d_Rd_readInCall_63 : decode b_Rd_readInCall 63 = .ok (.aload_n 1, 1) := by decide +kernel
theorem d_Rd_readInCall_64 : decode b_Rd_readInCall 64 = .ok (.getfield 192, 3) := by decide +kernel
theorem d_Rd_readInCall_67 : decode b_Rd_readInCall 67 = .ok (.ifCond .ne 5, 3) := by decide +kernel
theorem d_Rd_readInCall_70 : decode b_Rd_readInCall 70 = .ok (.iconst 0, 1) := by decide +kernel
theorem d_Rd_readInCall_71 : decode b_Rd_readInCall 71 = .ok (.ireturn, 1) := by decide +kernel
theorem d_Rd_readInCall_72 : decode b_Rd_readInCall 72 = .ok (.aload_n 1, 1) := by decide +kernel
theorem d_Rd_readInCall_73 : decode b_Rd_readInCall 73 = .ok (.iconst 1, 1) := by decide +kernel
theorem d_Rd_readInCall_74 : decode b_Rd_readInCall 74 = .ok (.putfield 192, 3) := by decide +kernel
theorem d_Rd_readInCall_77 : decode b_Rd_readInCall 77 = .ok (.iload_n 2, 1) := by decide +kernel
theorem d_Rd_readInCall_78 : decode b_Rd_readInCall 78 = .ok (.bipush 40, 2) := by decide +kernel
theorem d_Rd_readInCall_80 : decode b_Rd_readInCall 80 = .ok (.if_icmp .ne 16, 3) := by decide +kernel
theorem d_Rd_readInCall_83 : decode b_Rd_readInCall 83 = .ok (.aload_n 1, 1) := by decide +kernel
theorem d_Rd_readInCall_84 : decode b_Rd_readInCall 84 = .ok (.dup, 1) := by decide +kernel
theorem d_Rd_readInCall_85 : decode b_Rd_readInCall 85 = .ok (.getfield 177, 3) := by decide +kernel
theorem d_Rd_readInCall_88 : decode b_Rd_readInCall 88 = .ok (.iconst 1, 1) := by decide +kernel
theorem d_Rd_readInCall_89 : decode b_Rd_readInCall 89 = .ok (.iadd, 1) := by decide +kernel
theorem d_Rd_readInCall_90 : decode b_Rd_readInCall 90 = .ok (.putfield 177, 3) := by decide +kernel
theorem d_Rd_readInCall_93 : decode b_Rd_readInCall 93 = .ok (.goto 19, 3) := by decide +kernel
theorem d_Rd_readInCall_96 : decode b_Rd_readInCall 96 = .ok (.iload_n 2, 1) := by decide +kernel
theorem d_Rd_readInCall_97 : decode b_Rd_readInCall 97 = .ok (.bipush 41, 2) := by decide +kernel
theorem d_Rd_readInCall_99 : decode b_Rd_readInCall 99 = .ok (.if_icmp .ne 13, 3) := by decide +kernel
theorem d_Rd_readInCall_102 : decode b_Rd_readInCall 102 = .ok (.aload_n 1, 1) := by decide +kernel
theorem d_Rd_readInCall_103 : decode b_Rd_readInCall 103 = .ok (.dup, 1) := by decide +kernel
theorem d_Rd_readInCall_104 : decode b_Rd_readInCall 104 = .ok (.getfield 177, 3) := by decide +kernel
theorem d_Rd_readInCall_107 : decode b_Rd_readInCall 107 = .ok (.iconst 1, 1) := by decide +kernel
theorem d_Rd_readInCall_108 : decode b_Rd_readInCall 108 = .ok (.isub, 1) := by decide +kernel
theorem d_Rd_readInCall_109 : decode b_Rd_readInCall 109 = .ok (.putfield 177, 3) := by decide +kernel
theorem d_Rd_readInCall_112 : decode b_Rd_readInCall 112 = .ok (.aload_n 0, 1) := by decide +kernel
theorem d_Rd_readInCall_113 : decode b_Rd_readInCall 113 = .ok (.aload_n 0, 1) := by decide +kernel
theorem d_Rd_readInCall_114 : decode b_Rd_readInCall 114 = .ok (.getfield 21, 3) := by decide +kernel
theorem d_Rd_readInCall_117 : decode b_Rd_readInCall 117 = .ok (.getfield 129, 3) := by decide +kernel
theorem d_Rd_readInCall_120 : decode b_Rd_readInCall 120 = .ok (.iconst 1, 1) := by decide +kernel
theorem d_Rd_readInCall_121 : decode b_Rd_readInCall 121 = .ok (.isub, 1) := by decide +kernel
theorem d_Rd_readInCall_122 : decode b_Rd_readInCall 122 = .ok (.aload_n 0, 1) := by decide +kernel
theorem d_Rd_readInCall_123 : decode b_Rd_readInCall 123 = .ok (.getfield 21, 3) := by decide +kernel
theorem d_Rd_readInCall_126 : decode b_Rd_readInCall 126 = .ok (.getfield 129, 3) := by decide +kernel
theorem d_Rd_readInCall_129 : decode b_Rd_readInCall 129 = .ok (.invokevirtual 145, 3) := by decide +kernel
theorem d_Rd_readInCall_132 : decode b_Rd_readInCall 132 = .ok (.ireturn, 1) := by decide +kernel
theorem q_Rd_readInCall : aw_q1 y_Rd_readInCall b_Rd_readInCall 3 (some .int) 2 := ⟨k_595, k_63, ⟨by decide, by decide, by decide +kernel⟩, by decide⟩
def y_Rd_write : MethodName := ⟨"RescanDesk", "write", "(II)I"⟩
abbrev b_Rd_write : ByteArray := prog_1_method_13_code
theorem d_Rd_write_0 : decode b_Rd_write 0 = .ok (.aload_n 0, 1) := by decide +kernel
theorem d_Rd_write_1 : decode b_Rd_write 1 = .ok (.getfield 42, 3) := by decide +kernel
theorem d_Rd_write_4 : decode b_Rd_write 4 = .ok (.getfield 121, 3) := by decide +kernel
theorem d_Rd_write_7 : decode b_Rd_write 7 = .ok (.ifCond .le 13, 3) := by decide +kernel
theorem d_Rd_write_10 : decode b_Rd_write 10 = .ok (.aload_n 0, 1) := by decide +kernel
theorem d_Rd_write_11 : decode b_Rd_write 11 = .ok (.getfield 42, 3) := by decide +kernel
theorem d_Rd_write_14 : decode b_Rd_write 14 = .ok (.getfield 196, 3) := by decide +kernel
theorem d_Rd_write_17 : decode b_Rd_write 17 = .ok (.goto 10, 3) := by decide +kernel
theorem d_Rd_write_20 : decode b_Rd_write 20 = .ok (.aload_n 0, 1) := by decide +kernel
theorem d_Rd_write_21 : decode b_Rd_write 21 = .ok (.getfield 28, 3) := by decide +kernel
theorem d_Rd_write_24 : decode b_Rd_write 24 = .ok (.invokevirtual 199, 3) := by decide +kernel
theorem d_Rd_write_27 : decode b_Rd_write 27 = .ok (.astore_n 3, 1) := by decide +kernel
theorem d_Rd_write_28 : decode b_Rd_write 28 = .ok (.aload_n 3, 1) := by decide +kernel
theorem d_Rd_write_29 : decode b_Rd_write 29 = .ok (.ifnull 19, 3) := by decide +kernel
theorem d_Rd_write_32 : decode b_Rd_write 32 = .ok (.aload_n 3, 1) := by decide +kernel
theorem d_Rd_write_33 : decode b_Rd_write 33 = .ok (.aload_n 0, 1) := by decide +kernel
theorem d_Rd_write_34 : decode b_Rd_write 34 = .ok (.getfield 21, 3) := by decide +kernel
theorem d_Rd_write_37 : decode b_Rd_write 37 = .ok (.getfield 128, 3) := by decide +kernel
theorem d_Rd_write_40 : decode b_Rd_write 40 = .ok (.iload_n 1, 1) := by decide +kernel
theorem d_Rd_write_41 : decode b_Rd_write 41 = .ok (.iload_n 2, 1) := by decide +kernel
theorem d_Rd_write_42 : decode b_Rd_write 42 = .ok (.invokevirtual 203, 3) := by decide +kernel
theorem d_Rd_write_45 : decode b_Rd_write 45 = .ok (.ifCond .eq 7, 3) := by decide +kernel
theorem d_Rd_write_48 : decode b_Rd_write 48 = .ok (.iconst 0, 1) := by decide +kernel
theorem d_Rd_write_49 : decode b_Rd_write 49 = .ok (.goto 4, 3) := by decide +kernel
theorem d_Rd_write_52 : decode b_Rd_write 52 = .ok (.iconst 2, 1) := by decide +kernel
theorem d_Rd_write_53 : decode b_Rd_write 53 = .ok (.ireturn, 1) := by decide +kernel
theorem q_Rd_write : aw_q1 y_Rd_write b_Rd_write 4 (some .int) 2 := ⟨k_541, k_63, ⟨by decide, by decide, by decide +kernel⟩, by decide⟩
abbrev SQ : Type := (List Nat × Option Nat × (Nat → List Nat) × List Def) × List Nat × List CS × Nat
def hRd (G : aw_G) (w : Nat → va_E) (tx : List Nat) (σ : SQ) (rd : Value) (st : Nat) : Prop :=
  w 0 = aObj 0 [rf G 1, rf G 3, rf G 5, rf G 15, rf G 317, rf G 412, rd, .int (nI st)] ∧ hTx G w 1 300 tx ∧ hXe G w σ.1 ∧ hCs G w σ.2.1 σ.2.2.1 σ.2.2.2
theorem hX.keep {G : aw_G} {w w' : Nat → va_E} {q : XS} {lo hi : Nat} (h : hX G w q) (hf : fr lo hi w w') (h1 : hi ≤ 3 ∨ 317 ≤ lo ∧ hi ≤ 412 ∨ 418 ≤ lo) : hX G w' q :=
  ⟨h.1.keep hf (by omega), h.2.1.keep hf (by omega), h.2.2.1.keep hf (by omega), h.2.2.2.1.keep hf (by omega), h.2.2.2.2.1.keep hf (by omega), (hf _ (by omega)).trans h.2.2.2.2.2⟩
theorem hX.front {G : aw_G} {w w' : Nat → va_E} {q : XS} {F : List Nat} (h : hX G w q) (hF : hFr G w' F) (hf : fr 3 5 w w') : hX G w' (F, q.2) :=
  ⟨hF, h.2.1.keep hf (by omega), h.2.2.1.keep hf (by omega), h.2.2.2.1.keep hf (by omega), h.2.2.2.2.1.keep hf (by omega), (hf _ (by omega)).trans h.2.2.2.2.2⟩
section
variable {G : aw_G} {w w' : Nat → va_E} {tx : List Nat} {σ : SQ} {rd : Value} {st : Nat}
theorem hRd.calls {ga : List Nat} {C : List CS} {mo : Nat} (h : hRd G w tx σ rd st) (hc : hCs G w' ga C mo) (hf : fr 317 412 w w') : hRd G w' tx (σ.1, ga, C, mo) rd st := by
  obtain ⟨a1, a2, ⟨s, a3⟩, a4⟩ := h
  exact ⟨(hf _ (by omega)).trans a1, a2.keep hf (by omega), ⟨s, a3.keep hf (by omega)⟩, hc⟩
theorem hRd.front {F : List Nat} (h : hRd G w tx σ rd st) (hF : hFr G w' F) (hf : fr 3 5 w w') : hRd G w' tx ((F, σ.1.2), σ.2) rd st := by
  obtain ⟨a1, a2, ⟨s, a3⟩, a4⟩ := h
  exact ⟨(hf _ (by omega)).trans a1, a2.keep hf (by omega), ⟨s, a3.front hF hf⟩, a4.keep hf (by omega)⟩
theorem hRd.rows {p : Option Nat} {R : Nat → List Nat} (h : hRd G w tx σ rd st) (hR : hRo G w' p R) (hf : fr 5 15 w w') : hRd G w' tx ((σ.1.1, p, R, σ.1.2.2.2), σ.2) rd st := by
  obtain ⟨a1, a2, ⟨s, a3⟩, a4⟩ := h
  exact ⟨(hf _ (by omega)).trans a1, a2.keep hf (by omega), ⟨s, a3.row hR hf⟩, a4.keep hf (by omega)⟩
theorem hRd.text {tx' : List Nat} (h : hRd G w tx σ rd st) (ht : hTx G w' 1 300 tx') (hf : fr 1 3 w w') : hRd G w' tx' σ rd st := by
  obtain ⟨a1, a2, ⟨s, a3⟩, a4⟩ := h
  exact ⟨(hf _ (by omega)).trans a1, ht, ⟨s, a3.keep hf (by omega)⟩, a4.keep hf (by omega)⟩
theorem hRd.obj {rd' : Value} {st' : Nat} (h : hRd G w tx σ rd st) (h0 : w' 0 = aObj 0 [rf G 1, rf G 3, rf G 5, rf G 15, rf G 317, rf G 412, rd', .int (nI st')]) (hf : fr 0 1 w w') : hRd G w' tx σ rd' st' := by
  obtain ⟨a1, a2, ⟨s, a3⟩, a4⟩ := h
  exact ⟨h0, a2.keep hf (by omega), ⟨s, a3.keep hf (by omega)⟩, a4.keep hf (by omega)⟩
theorem hRd.keep {lo hi : Nat} (h : hRd G w tx σ rd st) (hf : fr lo hi w w') (h1 : 418 ≤ lo) : hRd G w' tx σ rd st := by
  obtain ⟨a1, a2, ⟨s, a3⟩, a4⟩ := h
  exact ⟨(hf _ (by omega)).trans a1, a2.keep hf (by omega), ⟨s, a3.keep hf (by omega)⟩, a4.keep hf (by omega)⟩
theorem hRd.exp {q : List Nat × Option Nat × (Nat → List Nat) × List Def} (h : hRd G w tx σ rd st) (hq : hXe G w' q) (hf : fx w w') : hRd G w' tx (q, σ.2) rd st := by
  obtain ⟨a1, a2, ⟨s, a3⟩, a4⟩ := h
  refine ⟨(hf _ (by omega)).trans a1, a2.kept (hf _ (by omega)) (hf _ (by omega)), hq, ?_⟩
  obtain ⟨b1, b2, b3, ⟨f, b4, b5⟩, b6, ⟨t, dp, bg, b7, b8⟩, b9⟩ := a4
  have K : ∀ {a : Nat} {t : Def}, 317 ≤ a → a + 5 ≤ 412 → hDe G w a t → hDe G w' a t := fun h1 h2 h => ⟨(hf _ (by omega)).trans h.1, h.2.1.kept (hf _ (by omega)) (hf _ (by omega)), h.2.2.kept (hf _ (by omega)) (hf _ (by omega))⟩
  have K2 : ∀ {a n dp : Nat} {t : Def} {st : Nat → Nat} {bg : Bool}, 317 ≤ a → a + 7 ≤ 412 → hCa G w a t st n dp bg → hCa G w' a t st n dp bg := fun h1 h2 h => ⟨(hf _ (by omega)).trans h.1, K (by omega) (by omega) h.2.1, (hf _ (by omega)).trans h.2.2⟩
  refine ⟨b1, (hf _ (by omega)).trans b2, b3.kept (hf _ (by omega)) (hf _ (by omega)), ⟨f, (hf _ (by omega)).trans b4, b5⟩, fun i hi => ?_, ⟨t, dp, bg, K2 (by omega) (by omega) b7, b8⟩, b9⟩
  obtain ⟨t, st, n, dp, bg, c1, c2⟩ := b6 i hi
  exact ⟨t, st, n, dp, bg, K2 (by omega) (by omega) c1, c2⟩
end
/-- characters are written: the error, the state -/
def wrS (σ : SQ) (s : List Nat) : Nat × SQ := match σ.2.2.1 with
  | _ :: _ => (e2 (decide (σ.2.1.length + s.length ≤ 400)), σ.1, (σ.2.1 ++ s).take 400, σ.2.2)
  | [] => match σ.1.2.1 with
    | none => (0, σ)
    | some k => (e2 (decide ((σ.1.2.2.1 k).length + s.length ≤ 300)), (σ.1.1, σ.1.2.1, upR σ.1.2.2.1 k ((σ.1.2.2.1 k ++ s).take 300), σ.1.2.2.2), σ.2)
section
variable {G : aw_G} {nx d : Nat} {w : Nat → va_E} {tx : List Nat} {σ : SQ} {rd : Value} {st : Nat}
theorem narZ (b : Bool) : narrow .boolean (.int (nI (bN b))) = .int (nI (bN b)) := by cases b <;> decide +kernel
def prV (G : aw_G) (p : Option Nat) : Value := match p with
  | none => .null
  | some k => rf G (7 + 2 * k)
theorem s_Ro_presentRow2 {p : Option Nat} {R : Nat → List Nat} (hnx : 15 ≤ nx) (h : hRo G w p R) : AC G y_Ro_presentRow b_Ro_presentRow 1 (some (.object "RescanDesk$Text")) d false [rf G 5] nx w 0 0 (fun r w' nx' => nx' = nx ∧ w' = w ∧ r = some (prV G p)) :=
  (s_Ro_presentRow hnx h).weak fun r w' nx' hp => ⟨hp.1, hp.2.1, hp.2.2.trans (by cases p <;> rfl)⟩
theorem s_Rd_write {u v : Nat} {f : Nat → Nat} (hnx : 418 ≤ nx) (hd : 2 ≤ d) (huv : u ≤ v) (hv : v ≤ 600) (hf : ∀ j, f j < 65536) (h4 : w 4 = aCh G 600 f) (h : hRd G w tx σ rd st) : AC G y_Rd_write b_Rd_write 4 (some .int) d false [rf G 0, .int (nI u), .int (nI v)] nx w 0 0 (fun r w' nx' => nx' = nx ∧ r = some (.int (nI (wrS σ (sl f u (v - u))).1)) ∧ hRd G w' tx (wrS σ (sl f u (v - u))).2 rd st ∧ fr 5 412 w w') := by
  have h0 := h
  obtain ⟨a1, a2, ⟨s, a3⟩, a4⟩ := h
  have b2 := a4.2.1
  have bl := a4.1
  have g1 := a4.2.2.1
  have g1o := g1.obj
  have r0 := a3.2.1
  have r0o := r0.1
  obtain ⟨fl, ff, fr1, fr2, -⟩ := id a3.1
  refine AC.ofW (by decide) (Nat.le_of_ble_eq_true rfl) ?_
  intro E P hP Y X
  have X : aw_X G "RescanDesk" b_Rd_write 4 (some .int) "write" _ _ _ _ _ E := X
  refine AW.eql (lv' := [(0, _), (1, _), (2, _)]) (by rfl) ?_
  have Z : ∀ (w1 : Nat → va_E) (b : Bool) (σ' : SQ), (wrS σ (sl f u (v - u))) = (e2 b, σ') → hRd G w1 tx σ' rd st → fr 5 412 w w1 → AW G E 4 nx 0 0 w1 45 [(3, rf G 0), (0, rf G 0), (1, .int (nI u)), (2, .int (nI v))] [.int (nI (bN b))] → True := fun _ _ _ _ _ _ _ => trivial
  clear Z
  refine aw_aload_nR (pc := 0) X d_Rd_write_0 (by rfl) ?_
  refine aw_getO (pc := 1) X _ 4 (by omega) (by (repeat (first | rw [aw_up_eq] | rw [aw_up_ne _ _ (by first | assumption | omega)])) <;> first | assumption | rfl) (by rfl) in_Rd (by decide) k_376 (by rfl) d_Rd_write_1 ?_
  refine aw_getNO (pc := 4) X _ 3 (by omega) (by (repeat (first | rw [aw_up_eq] | rw [aw_up_ne _ _ (by first | assumption | omega)])) <;> first | assumption | rfl) (by rfl) in_Cs (by decide) k_313 (by rfl) d_Rd_write_4 ?_
  refine aw_if_leN (pc := 7) X (tgt := 20) d_Rd_write_7 (by rfl) (by omega) (fun h7 => ?_) (fun h7 => ?_)
  -- br 7 lv=0:r,1:n,2:n st=
  · have hC : σ.2.2.1 = [] := List.length_eq_zero_iff.mp (by omega)
    refine aw_aload_nR (pc := 20) X d_Rd_write_20 (by rfl) ?_
    refine aw_getO (pc := 21) X _ 2 (by omega) (by (repeat (first | rw [aw_up_eq] | rw [aw_up_ne _ _ (by first | assumption | omega)])) <;> first | assumption | rfl) (by rfl) in_Rd (by decide) k_374 (by rfl) d_Rd_write_21 ?_
    -- invokevirtual 24 lv=0:r,1:n,2:n st=r
    refine aw_callV (pc := 24) X _ (s_Ro_presentRow2 (d := 0) (by omega) r0) q_Ro_presentRow k_542 k_543 k_544 (by omega) r0o (by rfl) d_Rd_write_24 (by omega) (Nat.le_of_ble_eq_true rfl) ⟨by omega, by omega⟩ (fun h => by cases h) (fun r w2 nx2 hp => ?_)
    obtain ⟨rfl, rfl, rfl⟩ := hp
    cases hp : σ.1.2.1 with
    | none =>
      have hS : wrS σ (sl f u (v - u)) = (0, σ) := by
        rw [wrS, hC]
        simp only [hp]
      refine aw_astore_nN (pc := 27) X (lv' := [(3, _), (0, _), (1, _), (2, _)]) d_Rd_write_27 (by decide) (by rfl) ?_
      refine aw_aload_nN (pc := 28) X d_Rd_write_28 (by rfl) ?_
      refine aw_ifnullN (pc := 29) X (tgt := 48) d_Rd_write_29 (by rfl) ?_
      refine aw_iconstN (pc := 48) X 0 d_Rd_write_48 (by decide) ?_
      refine aw_goto (pc := 49) X (tgt := 53) d_Rd_write_49 (by rfl) ?_
      refine aw_iret Y X rfl d_Rd_write_53 (by omega) (by omega) (hP _ _ _ ?_)
      -- ret 53 lv=3:0,0:r,1:n,2:n st=n
      rw [hS]
      exact ⟨rfl, rfl, h0, fr.refl _ _ _⟩
    | some k =>
      have hk : k < 4 := r0.2.2.2 k hp
      have hrow := r0.2.2.1 k hk
      have hrowo := hrow.obj
      have hS : wrS σ (sl f u (v - u)) = (e2 (decide ((σ.1.2.2.1 k).length + (v - u) ≤ 300)), (σ.1.1, σ.1.2.1, upR σ.1.2.2.1 k ((σ.1.2.2.1 k ++ sl f u (v - u)).take 300), σ.1.2.2.2), σ.2) := by
        rw [wrS, hC]
        simp only [hp, sl_len]
      refine aw_astore_nR (pc := 27) X (lv' := [(3, _), (0, _), (1, _), (2, _)]) d_Rd_write_27 (by decide) (by rfl) ?_
      refine aw_aload_nR (pc := 28) X d_Rd_write_28 (by rfl) ?_
      refine aw_ifnull (pc := 29) X d_Rd_write_29 ?_
      refine aw_aload_nR (pc := 32) X d_Rd_write_32 (by rfl) ?_
      refine aw_aload_nR (pc := 33) X d_Rd_write_33 (by rfl) ?_
      refine aw_getO (pc := 34) X _ 1 (by omega) (by (repeat (first | rw [aw_up_eq] | rw [aw_up_ne _ _ (by first | assumption | omega)])) <;> first | assumption | rfl) (by rfl) in_Rd (by decide) k_373 (by rfl) d_Rd_write_34 ?_
      refine aw_getNO (pc := 37) X _ 0 (by omega) (by (repeat (first | rw [aw_up_eq] | rw [aw_up_ne _ _ (by first | assumption | omega)])) <;> first | assumption | rfl) (by rfl) in_Fr (by decide) k_133 (by rfl) d_Rd_write_37 ?_
      refine aw_iload_n (pc := 40) X d_Rd_write_40 (by rfl) ?_
      refine aw_iload_n (pc := 41) X d_Rd_write_41 (by rfl) ?_
      -- invokevirtual 42 lv=3:r,0:r,1:n,2:n st=n,n,r,r
      refine aw_callV (pc := 42) X _ (s_Tx_addPart (d := 1) (q := 4) (l := 600) (by omega) (by omega) (by omega) (by omega) (by omega) huv hv hf hrow h4) q_Tx_addPart k_546 k_547 k_548 (by omega) hrowo (by rfl) d_Rd_write_42 (by omega) (Nat.le_of_ble_eq_true rfl) ⟨by omega, by omega⟩ (fun h => by cases h) (fun r w3 nx3 hp => ?_)
      obtain ⟨rfl, rfl, k4, kf⟩ := hp
      have hR := r0.row hk k4 kf
      have hRd := h0.rows hR (kf.mono (by omega) (by omega))
      have hbl := bN_lt (decide ((σ.1.2.2.1 k).length + (v - u) ≤ 300))
      refine aw_if_eqN (pc := 45) X (tgt := 52) d_Rd_write_45 (by rfl) (by omega) (fun h45 => ?_) (fun h45 => ?_)
      -- br 45 lv=3:r,0:r,1:n,2:n st=
      · refine aw_iconstN (pc := 52) X 2 d_Rd_write_52 (by decide) ?_
        refine aw_iret Y X rfl d_Rd_write_53 (by omega) (by omega) (hP _ _ _ ?_)
        -- ret 53 lv=3:r,0:r,1:n,2:n st=n
        rw [hS, bN_eq.mp h45]
        exact ⟨rfl, rfl, hRd, kf.mono (by omega) (by omega)⟩
      · refine aw_iconstN (pc := 48) X 0 d_Rd_write_48 (by decide) ?_
        refine aw_goto (pc := 49) X (tgt := 53) d_Rd_write_49 (by rfl) ?_
        refine aw_iret Y X rfl d_Rd_write_53 (by omega) (by omega) (hP _ _ _ ?_)
        -- ret 53 lv=3:r,0:r,1:n,2:n st=n
        rw [hS, bN_ne.mp h45]
        exact ⟨rfl, rfl, hRd, kf.mono (by omega) (by omega)⟩
  · obtain ⟨u0, c0, hC⟩ : ∃ u c, σ.2.2.1 = u :: c := by
      cases hC : σ.2.2.1 with
      | nil => rw [hC] at h7; simp at h7
      | cons u c => exact ⟨u, c, rfl⟩
    have hS : wrS σ (sl f u (v - u)) = (e2 (decide (σ.2.1.length + (v - u) ≤ 400)), σ.1, (σ.2.1 ++ sl f u (v - u)).take 400, σ.2.2) := by
        rw [wrS, hC]
        simp only [sl_len]
    refine aw_aload_nR (pc := 10) X d_Rd_write_10 (by rfl) ?_
    refine aw_getO (pc := 11) X _ 4 (by omega) (by (repeat (first | rw [aw_up_eq] | rw [aw_up_ne _ _ (by first | assumption | omega)])) <;> first | assumption | rfl) (by rfl) in_Rd (by decide) k_376 (by rfl) d_Rd_write_11 ?_
    refine aw_getNO (pc := 14) X _ 0 (by omega) (by (repeat (first | rw [aw_up_eq] | rw [aw_up_ne _ _ (by first | assumption | omega)])) <;> first | assumption | rfl) (by rfl) in_Cs (by decide) k_309 (by rfl) d_Rd_write_14 ?_
    refine aw_goto (pc := 17) X (tgt := 27) d_Rd_write_17 (by rfl) ?_
    refine aw_astore_nR (pc := 27) X (lv' := [(3, _), (0, _), (1, _), (2, _)]) d_Rd_write_27 (by decide) (by rfl) ?_
    refine aw_aload_nR (pc := 28) X d_Rd_write_28 (by rfl) ?_
    refine aw_ifnull (pc := 29) X d_Rd_write_29 ?_
    refine aw_aload_nR (pc := 32) X d_Rd_write_32 (by rfl) ?_
    refine aw_aload_nR (pc := 33) X d_Rd_write_33 (by rfl) ?_
    refine aw_getO (pc := 34) X _ 1 (by omega) (by (repeat (first | rw [aw_up_eq] | rw [aw_up_ne _ _ (by first | assumption | omega)])) <;> first | assumption | rfl) (by rfl) in_Rd (by decide) k_373 (by rfl) d_Rd_write_34 ?_
    refine aw_getNO (pc := 37) X _ 0 (by omega) (by (repeat (first | rw [aw_up_eq] | rw [aw_up_ne _ _ (by first | assumption | omega)])) <;> first | assumption | rfl) (by rfl) in_Fr (by decide) k_133 (by rfl) d_Rd_write_37 ?_
    refine aw_iload_n (pc := 40) X d_Rd_write_40 (by rfl) ?_
    refine aw_iload_n (pc := 41) X d_Rd_write_41 (by rfl) ?_
    -- invokevirtual 42 lv=3:r,0:r,1:n,2:n st=n,n,r,r
    refine aw_callV (pc := 42) X _ (s_Tx_addPart (d := 1) (q := 4) (l := 600) (by omega) (by omega) (by omega) (by omega) (by omega) huv hv hf g1 h4) q_Tx_addPart k_546 k_547 k_548 (by omega) g1o (by rfl) d_Rd_write_42 (by omega) (Nat.le_of_ble_eq_true rfl) ⟨by omega, by omega⟩ (fun h => by cases h) (fun r w3 nx3 hp => ?_)
    obtain ⟨rfl, rfl, k4, kf⟩ := hp
    have hgl := g1.le
    have hCs' : hCs G w3 ((σ.2.1 ++ sl f u (v - u)).take 400) σ.2.2.1 σ.2.2.2 := by
      obtain ⟨b1, b2, b3, ⟨f2, b4, b5⟩, b6, ⟨t, dp, bg, b7, b8⟩, b9, b10⟩ := a4
      refine ⟨b1, (kf _ (by omega)).trans b2, k4, ⟨f2, (kf _ (by omega)).trans b4, b5⟩, fun i hi => ?_, ⟨t, dp, bg, b7.keep kf (by omega), b8⟩, b9.mono ?_, b10⟩
      · obtain ⟨t, st, n, dp, bg, c1, c2⟩ := b6 i hi
        exact ⟨t, st, n, dp, bg, c1.keep kf (by omega), c2⟩
      · rw [List.length_take, List.length_append]
        omega
    have hRd := h0.calls hCs' (kf.mono (by omega) (by omega))
    have hbl := bN_lt (decide (σ.2.1.length + (v - u) ≤ 400))
    refine aw_if_eqN (pc := 45) X (tgt := 52) d_Rd_write_45 (by rfl) (by omega) (fun h45 => ?_) (fun h45 => ?_)
    -- br 45 lv=3:r,0:r,1:n,2:n st=
    · refine aw_iconstN (pc := 52) X 2 d_Rd_write_52 (by decide) ?_
      refine aw_iret Y X rfl d_Rd_write_53 (by omega) (by omega) (hP _ _ _ ?_)
      -- ret 53 lv=3:r,0:r,1:n,2:n st=n
      rw [hS, bN_eq.mp h45]
      exact ⟨rfl, rfl, hRd, kf.mono (by omega) (by omega)⟩
    · refine aw_iconstN (pc := 48) X 0 d_Rd_write_48 (by decide) ?_
      refine aw_goto (pc := 49) X (tgt := 53) d_Rd_write_49 (by rfl) ?_
      refine aw_iret Y X rfl d_Rd_write_53 (by omega) (by omega) (hP _ _ _ ?_)
      -- ret 53 lv=3:r,0:r,1:n,2:n st=n
      rw [hS, bN_ne.mp h45]
      exact ⟨rfl, rfl, hRd, kf.mono (by omega) (by omega)⟩
/-- the end of the front -/
def finS (σ : SQ) : Nat × SQ := match σ.2.2.1 with
  | _ :: _ => (4, σ)
  | [] => (e2 (pourAllS σ.1.2.2.1 (some 0)).1, (σ.1.1, (if (pourAllS σ.1.2.2.1 (some 0)).1 = true then some 0 else σ.1.2.1), (pourAllS σ.1.2.2.1 (some 0)).2, σ.1.2.2.2), σ.2)
theorem s_Rd_finish (hnx : 418 ≤ nx) (hd : 5 ≤ d) (h : hRd G w tx σ rd st) : AC G y_Rd_finish b_Rd_finish 1 (some .int) d false [rf G 0] nx w 0 0 (fun r w' nx' => nx' = nx ∧ r = some (.int (nI (finS σ).1)) ∧ hRd G w' tx (finS σ).2 rd st ∧ fr 0 418 w w') := by
  have h0 := h
  obtain ⟨a1, a2, ⟨s, a3⟩, a4⟩ := h
  have b2 := a4.2.1
  have bl := a4.1
  have r0 := a3.2.1
  have r0o := r0.1
  refine AC.ofW (by decide) (Nat.le_of_ble_eq_true rfl) ?_
  intro E P hP Y X
  have X : aw_X G "RescanDesk" b_Rd_finish 1 (some .int) "finish" _ _ _ _ _ E := X
  refine AW.eql (lv' := [(0, _)]) (by rfl) ?_
  refine aw_aload_nR (pc := 0) X d_Rd_finish_0 (by rfl) ?_
  refine aw_getO (pc := 1) X _ 4 (by omega) (by (repeat (first | rw [aw_up_eq] | rw [aw_up_ne _ _ (by first | assumption | omega)])) <;> first | assumption | rfl) (by rfl) in_Rd (by decide) k_376 (by rfl) d_Rd_finish_1 ?_
  refine aw_getNO (pc := 4) X _ 3 (by omega) (by (repeat (first | rw [aw_up_eq] | rw [aw_up_ne _ _ (by first | assumption | omega)])) <;> first | assumption | rfl) (by rfl) in_Cs (by decide) k_313 (by rfl) d_Rd_finish_4 ?_
  refine aw_if_leN (pc := 7) X (tgt := 12) d_Rd_finish_7 (by rfl) (by omega) (fun h7 => ?_) (fun h7 => ?_)
  -- br 7 lv=0:r st=
  · have hC : σ.2.2.1 = [] := List.length_eq_zero_iff.mp (by omega)
    refine aw_aload_nR (pc := 12) X d_Rd_finish_12 (by rfl) ?_
    refine aw_getO (pc := 13) X _ 2 (by omega) (by (repeat (first | rw [aw_up_eq] | rw [aw_up_ne _ _ (by first | assumption | omega)])) <;> first | assumption | rfl) (by rfl) in_Rd (by decide) k_374 (by rfl) d_Rd_finish_13 ?_
    -- invokevirtual 16 lv=0:r st=r
    refine aw_callV (pc := 16) X _ (s_Ro_join (d := 4) (by omega) (by omega) r0) q_Ro_join k_808 k_809 k_810 (by omega) r0o (by rfl) d_Rd_finish_16 (by omega) (Nat.le_of_ble_eq_true rfl) ⟨by omega, by omega⟩ (fun h => by cases h) (fun r w3 nx3 hp => ?_)
    obtain ⟨rfl, rfl, k4, kf⟩ := hp
    have hRd := h0.rows k4 kf
    have hbl := bN_lt (pourAllS σ.1.2.2.1 (some 0)).1
    have hS : finS σ = (e2 (pourAllS σ.1.2.2.1 (some 0)).1, (σ.1.1, (if (pourAllS σ.1.2.2.1 (some 0)).1 = true then some 0 else σ.1.2.1), (pourAllS σ.1.2.2.1 (some 0)).2, σ.1.2.2.2), σ.2) := by
      rw [finS, hC]
    refine aw_if_eqN (pc := 19) X (tgt := 26) d_Rd_finish_19 (by rfl) (by omega) (fun h19 => ?_) (fun h19 => ?_)
    -- br 19 lv=0:r st=
    · refine aw_iconstN (pc := 26) X 2 d_Rd_finish_26 (by decide) ?_
      refine aw_iret Y X rfl d_Rd_finish_27 (by omega) (by omega) (hP _ _ _ ?_)
      -- ret 27 lv=0:r st=n
      rw [hS]
      refine ⟨rfl, ?_, hRd, kf.mono (by omega) (by omega)⟩
      show _ = some (Value.int (nI (e2 (pourAllS σ.1.2.2.1 (some 0)).1)))
      rw [bN_eq.mp h19]
      rfl
    · refine aw_iconstN (pc := 22) X 0 d_Rd_finish_22 (by decide) ?_
      refine aw_goto (pc := 23) X (tgt := 27) d_Rd_finish_23 (by rfl) ?_
      refine aw_iret Y X rfl d_Rd_finish_27 (by omega) (by omega) (hP _ _ _ ?_)
      -- ret 27 lv=0:r st=n
      rw [hS]
      refine ⟨rfl, ?_, hRd, kf.mono (by omega) (by omega)⟩
      show _ = some (Value.int (nI (e2 (pourAllS σ.1.2.2.1 (some 0)).1)))
      rw [bN_ne.mp h19]
      rfl
  · obtain ⟨u0, c0, hC⟩ : ∃ u c, σ.2.2.1 = u :: c := by
      cases hC : σ.2.2.1 with
      | nil => rw [hC] at h7; simp at h7
      | cons u c => exact ⟨u, c, rfl⟩
    refine aw_iconstN (pc := 10) X 4 d_Rd_finish_10 (by decide) ?_
    refine aw_iret Y X rfl d_Rd_finish_11 (by omega) (by omega) (hP _ _ _ ?_)
    -- ret 11 lv=0:r st=n
    have hS : finS σ = (4, σ) := by rw [finS, hC]
    rw [hS]
    exact ⟨rfl, rfl, h0, fr.refl _ _ _⟩
theorem s_Rd_begin (hnx : 418 ≤ nx) (hd : 4 ≤ d) (h : hRd G w tx σ rd st) : AC G y_Rd_begin b_Rd_begin 1 none d false [rf G 0] nx w 0 0 (fun r w' nx' => nx' = nx ∧ r = none ∧ hRd G w' [] ((tx, some 0, fun _ => [], σ.1.2.2.2), [], [], 0) rd 0 ∧ fr 0 418 w w') := by
  have h0 := h
  obtain ⟨a1, a2, ⟨s, a3⟩, a4⟩ := h
  have b2 := a4.2.1
  obtain ⟨fl, ff, fr1, fr2, fr3, fr4⟩ := id a3.1
  obtain ⟨g, t1, t2, t3, t4, t5⟩ := id a2
  refine AC.ofW (by decide) (Nat.le_of_ble_eq_true rfl) ?_
  intro E P hP Y X
  have X : aw_X G "RescanDesk" b_Rd_begin 1 none "begin" _ _ _ _ _ E := X
  refine AW.eql (lv' := [(0, _)]) (by rfl) ?_
  refine aw_aload_nR (pc := 0) X d_Rd_begin_0 (by rfl) ?_
  refine aw_getO (pc := 1) X _ 1 (by omega) (by (repeat (first | rw [aw_up_eq] | rw [aw_up_ne _ _ (by first | assumption | omega)])) <;> first | assumption | rfl) (by rfl) in_Rd (by decide) k_373 (by rfl) d_Rd_begin_1 ?_
  refine aw_aload_nR (pc := 4) X d_Rd_begin_4 (by rfl) ?_
  refine aw_getO (pc := 5) X _ 0 (by omega) (by (repeat (first | rw [aw_up_eq] | rw [aw_up_ne _ _ (by first | assumption | omega)])) <;> first | assumption | rfl) (by rfl) in_Rd (by decide) k_372 (by rfl) d_Rd_begin_5 ?_
  -- invokevirtual 8 lv=0:r st=r,r
  refine aw_callV (pc := 8) X _ (c_Fr_load (d := 2) (a := 3) (c := 4) (a2 := 1) (c2 := 2) (n := 600 - σ.1.1.length) (n2 := tx.length) (m2 := 300) (by omega) (by omega) (by omega) (by omega) (by omega) (by omega) (by omega) (by omega) (by omega) t4 t5 fr1 fr2 t1 t2) q_Fr_load k_501 k_502 k_503 (by omega) fr1 (by rfl) d_Rd_begin_8 (by omega) (Nat.le_of_ble_eq_true rfl) ⟨by omega, by omega⟩ (fun h => by cases h) (fun r w2 nx2 hp => ?_)
  obtain ⟨rfl, rfl, hw2⟩ := hp
  have hf2 : fr 3 5 w w2 := by rw [hw2]; exact ((fr.refl _ _ _).up _ (by omega)).up _ (by omega)
  have hF : hFr G w2 tx := by
    refine ⟨by omega, aw_cpn g ff 0 (600 - tx.length) tx.length, by rw [hw2, aw_up_ne _ _ (by omega), aw_up_eq], by rw [hw2, aw_up_eq], t3.trans (sl_congr fun i hi => ?_), fun j => ?_⟩
    · unfold aw_cpn
      rw [if_pos (by omega)]
      congr 1
      omega
    · unfold aw_cpn
      split
      · exact t5 _
      · exact fr4 _
  have h2 := h0.front hF hf2
  obtain ⟨e1, e2, -⟩ := id h2
  have e2o := e2.obj
  refine aw_aload_nR (pc := 11) X d_Rd_begin_11 (by rfl) ?_
  refine aw_getO (pc := 12) X _ 0 (by omega) (by (repeat (first | rw [aw_up_eq] | rw [aw_up_ne _ _ (by first | assumption | omega)])) <;> first | assumption | rfl) (by rfl) in_Rd (by decide) k_372 (by rfl) d_Rd_begin_12 ?_
  -- invokevirtual 15 lv=0:r st=r
  refine aw_callV (pc := 15) X _ (s_Tx_empty (d := 0) (by omega) e2) q_Tx_empty k_406 k_196 k_197 (by omega) e2o (by rfl) d_Rd_begin_15 (by omega) (Nat.le_of_ble_eq_true rfl) ⟨by omega, by omega⟩ (fun h => by cases h) (fun r w3 nx2 hp => ?_)
  obtain ⟨rfl, rfl, k3, hf3⟩ := hp
  have h3 := h2.text k3 hf3
  obtain ⟨i1, i2, ⟨s3, i3⟩, i4⟩ := id h3
  have i3o := i3.2.1.1
  refine aw_aload_nR (pc := 18) X d_Rd_begin_18 (by rfl) ?_
  refine aw_getO (pc := 19) X _ 2 (by omega) (by (repeat (first | rw [aw_up_eq] | rw [aw_up_ne _ _ (by first | assumption | omega)])) <;> first | assumption | rfl) (by rfl) in_Rd (by decide) k_374 (by rfl) d_Rd_begin_19 ?_
  -- invokevirtual 22 lv=0:r st=r
  refine aw_callV (pc := 22) X _ (s_Ro_begin (d := 1) (by omega) (by omega) i3.2.1) q_Ro_begin k_512 k_513 k_514 (by omega) i3o (by rfl) d_Rd_begin_22 (by omega) (Nat.le_of_ble_eq_true rfl) ⟨by omega, by omega⟩ (fun h => by cases h) (fun r w4 nx2 hp => ?_)
  obtain ⟨rfl, rfl, k4, hf4⟩ := hp
  have h4 := h3.rows k4 hf4
  obtain ⟨j1, j2, ⟨s4, j3⟩, j4⟩ := id h4
  have j4o := j4.2.1
  refine aw_aload_nR (pc := 25) X d_Rd_begin_25 (by rfl) ?_
  refine aw_getO (pc := 26) X _ 4 (by omega) (by (repeat (first | rw [aw_up_eq] | rw [aw_up_ne _ _ (by first | assumption | omega)])) <;> first | assumption | rfl) (by rfl) in_Rd (by decide) k_376 (by rfl) d_Rd_begin_26 ?_
  -- invokevirtual 29 lv=0:r st=r
  refine aw_callV (pc := 29) X _ (s_Cs_begin (d := 1) (by omega) (by omega) j4) q_Cs_begin k_517 k_518 k_519 (by omega) j4o (by rfl) d_Rd_begin_29 (by omega) (Nat.le_of_ble_eq_true rfl) ⟨by omega, by omega⟩ (fun h => by cases h) (fun r w5 nx2 hp => ?_)
  obtain ⟨rfl, rfl, k5, hf5⟩ := hp
  have h5 := h4.calls k5 hf5
  have m1 := h5.1
  refine aw_aload_nR (pc := 32) X d_Rd_begin_32 (by rfl) ?_
  refine aw_iconstN (pc := 33) X 0 d_Rd_begin_33 (by decide) ?_
  refine aw_putO (pc := 34) X _ 7 (by omega) (by (repeat (first | rw [aw_up_eq] | rw [aw_up_ne _ _ (by first | assumption | omega)])) <;> first | assumption | rfl) (by rfl) in_Rd (by decide) ty_Rd ok_Rd nm_Rd k_379 (by rfl) (by rfl) (by rfl) (by simp) (fs' := [_, _, _, _, _, _, _, _]) (by rfl) d_Rd_begin_34 ?_
  refine aw_vret Y X rfl d_Rd_begin_37 (by omega) (by omega) (hP _ _ _ ?_)
  -- ret 37 lv=0:r st=
  have hf6 : fr 0 1 w5 (aw_up w5 0 (aObj 0 [rf G 1, rf G 3, rf G 5, rf G 15, rf G 317, rf G 412, rd, .int (nI 0)])) := (fr.refl _ _ _).up _ (by omega)
  exact ⟨rfl, rfl, h5.obj (aw_up_eq _ _ _) hf6, (hf2.mono (by omega) (by omega)).trans ((hf3.mono (by omega) (by omega)).trans ((hf4.mono (by omega) (by omega)).trans ((hf5.mono (by omega) (by omega)).trans (hf6.mono (by omega) (by omega)))))⟩
theorem s_Rd_type {x : Nat} (hnx : 418 ≤ nx) (hd : 1 ≤ d) (hx : x < 65536) (h : hRd G w tx σ rd st) : AC G y_Rd_type b_Rd_type 2 (some .boolean) d false [rf G 0, .int (nI x)] nx w 0 0 (fun r w' nx' => nx' = nx ∧ r = some (.int (nI (bN (decide (tx.length < 300))))) ∧ hRd G w' ((tx ++ [x]).take 300) σ rd st ∧ fr 0 418 w w') := by
  have h0 := h
  obtain ⟨a1, a2, -⟩ := h
  have a2o := a2.obj
  refine AC.ofW (by decide) (Nat.le_of_ble_eq_true rfl) ?_
  intro E P hP Y X
  have X : aw_X G "RescanDesk" b_Rd_type 2 (some .boolean) "type" _ _ _ _ _ E := X
  refine AW.eql (lv' := [(0, _), (1, _)]) (by rfl) ?_
  refine aw_aload_nR (pc := 0) X d_Rd_type_0 (by rfl) ?_
  refine aw_getO (pc := 1) X _ 0 (by omega) (by (repeat (first | rw [aw_up_eq] | rw [aw_up_ne _ _ (by first | assumption | omega)])) <;> first | assumption | rfl) (by rfl) in_Rd (by decide) k_372 (by rfl) d_Rd_type_1 ?_
  refine aw_iload_n (pc := 4) X d_Rd_type_4 (by rfl) ?_
  -- invokevirtual 5 lv=0:r,1:n st=n,r
  refine aw_callV (pc := 5) X _ (s_Tx_add (d := 0) (by omega) (by omega) hx a2) q_Tx_add k_401 k_248 k_249 (by omega) a2o (by rfl) d_Rd_type_5 (by omega) (Nat.le_of_ble_eq_true rfl) ⟨by omega, by omega⟩ (fun h => by cases h) (fun r w2 nx2 hp => ?_)
  obtain ⟨rfl, rfl, k4, kf⟩ := hp
  have hbl := bN_lt (decide (tx.length < 300))
  refine aw_zret Y X rfl (narZ _) d_Rd_type_8 (by omega) (by omega) (hP _ _ _ ?_)
  -- ret 8 lv=0:r,1:n st=n
  exact ⟨rfl, rfl, h0.text k4 kf, kf.mono (by omega) (by omega)⟩
theorem s_Rd_clear (hnx : 418 ≤ nx) (hd : 1 ≤ d) (h : hRd G w tx σ rd st) : AC G y_Rd_clear b_Rd_clear 2 (some .int) d false [rf G 0] nx w 0 0 (fun r w' nx' => nx' = nx ∧ r = some (.int (nI tx.length)) ∧ hRd G w' [] σ rd st ∧ fr 0 418 w w') := by
  have h0 := h
  obtain ⟨a1, a2, -⟩ := h
  have a2o := a2.obj
  refine AC.ofW (by decide) (Nat.le_of_ble_eq_true rfl) ?_
  intro E P hP Y X
  have X : aw_X G "RescanDesk" b_Rd_clear 2 (some .int) "clear" _ _ _ _ _ E := X
  refine AW.eql (lv' := [(0, _)]) (by rfl) ?_
  refine aw_aload_nR (pc := 0) X d_Rd_clear_0 (by rfl) ?_
  refine aw_getO (pc := 1) X _ 0 (by omega) (by (repeat (first | rw [aw_up_eq] | rw [aw_up_ne _ _ (by first | assumption | omega)])) <;> first | assumption | rfl) (by rfl) in_Rd (by decide) k_372 (by rfl) d_Rd_clear_1 ?_
  refine aw_getNO (pc := 4) X _ 1 (by omega) (by (repeat (first | rw [aw_up_eq] | rw [aw_up_ne _ _ (by first | assumption | omega)])) <;> first | assumption | rfl) (by rfl) in_Tx (by decide) k_113 (by rfl) d_Rd_clear_4 ?_
  refine aw_istore_n (pc := 7) X (lv' := [(1, _), (0, _)]) d_Rd_clear_7 (by decide) (by rfl) ?_
  refine aw_aload_nR (pc := 8) X d_Rd_clear_8 (by rfl) ?_
  refine aw_getO (pc := 9) X _ 0 (by omega) (by (repeat (first | rw [aw_up_eq] | rw [aw_up_ne _ _ (by first | assumption | omega)])) <;> first | assumption | rfl) (by rfl) in_Rd (by decide) k_372 (by rfl) d_Rd_clear_9 ?_
  -- invokevirtual 12 lv=1:n,0:r st=r
  refine aw_callV (pc := 12) X _ (s_Tx_empty (d := 0) (by omega) a2) q_Tx_empty k_406 k_196 k_197 (by omega) a2o (by rfl) d_Rd_clear_12 (by omega) (Nat.le_of_ble_eq_true rfl) ⟨by omega, by omega⟩ (fun h => by cases h) (fun r w2 nx2 hp => ?_)
  obtain ⟨rfl, rfl, k4, kf⟩ := hp
  refine aw_iload_n (pc := 15) X d_Rd_clear_15 (by rfl) ?_
  refine aw_iret Y X rfl d_Rd_clear_16 (by omega) (by omega) (hP _ _ _ ?_)
  -- ret 16 lv=1:n,0:r st=n
  exact ⟨rfl, rfl, h0.text k4 kf, kf.mono (by omega) (by omega)⟩
end

