/-! the reference's methods: names and instructions -/
def y_Mo_built : MethodName := ⟨"RescanDeskModel", "built", "(JI)V"⟩
abbrev b_Mo_built : ByteArray := prog_14_method_2_code
theorem d_Mo_built_0 : decode b_Mo_built 0 = .ok (.iconst 0, 1) := by decide +kernel
theorem d_Mo_built_1 : decode b_Mo_built 1 = .ok (.istore 4, 2) := by decide +kernel
theorem d_Mo_built_3 : decode b_Mo_built 3 = .ok (.lload_n 1, 1) := by decide +kernel
theorem d_Mo_built_4 : decode b_Mo_built 4 = .ok (.lstore 5, 2) := by decide +kernel
theorem d_Mo_built_6 : decode b_Mo_built 6 = .ok (.lload 5, 2) := by decide +kernel
theorem d_Mo_built_8 : decode b_Mo_built 8 = .ok (.lconst 0, 1) := by decide +kernel
theorem d_Mo_built_9 : decode b_Mo_built 9 = .ok (.lcmp, 1) := by decide +kernel
theorem d_Mo_built_10 : decode b_Mo_built 10 = .ok (.ifCond .eq 39, 3) := by decide +kernel
theorem d_Mo_built_13 : decode b_Mo_built 13 = .ok (.aload_n 0, 1) := by decide +kernel
theorem d_Mo_built_14 : decode b_Mo_built 14 = .ok (.getfield 16, 3) := by decide +kernel
theorem d_Mo_built_17 : decode b_Mo_built 17 = .ok (.bipush 12, 2) := by decide +kernel
theorem d_Mo_built_19 : decode b_Mo_built 19 = .ok (.aload_n 0, 1) := by decide +kernel
theorem d_Mo_built_20 : decode b_Mo_built 20 = .ok (.getfield 118, 3) := by decide +kernel
theorem d_Mo_built_23 : decode b_Mo_built 23 = .ok (.imul, 1) := by decide +kernel
theorem d_Mo_built_24 : decode b_Mo_built 24 = .ok (.iload 4, 2) := by decide +kernel
theorem d_Mo_built_26 : decode b_Mo_built 26 = .ok (.iadd, 1) := by decide +kernel
theorem d_Mo_built_27 : decode b_Mo_built 27 = .ok (.lload 5, 2) := by decide +kernel
theorem d_Mo_built_29 : decode b_Mo_built 29 = .ok (.ldc2_w 122, 3) := by decide +kernel
theorem d_Mo_built_32 : decode b_Mo_built 32 = .ok (.land, 1) := by decide +kernel
theorem d_Mo_built_33 : decode b_Mo_built 33 = .ok (.l2i, 1) := by decide +kernel
theorem d_Mo_built_34 : decode b_Mo_built 34 = .ok (.i2c, 1) := by decide +kernel
theorem d_Mo_built_35 : decode b_Mo_built 35 = .ok (.castore, 1) := by decide +kernel
theorem d_Mo_built_36 : decode b_Mo_built 36 = .ok (.iinc 4 1, 3) := by decide +kernel
theorem d_Mo_built_39 : decode b_Mo_built 39 = .ok (.lload 5, 2) := by decide +kernel
theorem d_Mo_built_41 : decode b_Mo_built 41 = .ok (.bipush 8, 2) := by decide +kernel
theorem d_Mo_built_43 : decode b_Mo_built 43 = .ok (.lshr, 1) := by decide +kernel
theorem d_Mo_built_44 : decode b_Mo_built 44 = .ok (.lstore 5, 2) := by decide +kernel
theorem d_Mo_built_46 : decode b_Mo_built 46 = .ok (.goto (-40), 3) := by decide +kernel
theorem d_Mo_built_49 : decode b_Mo_built 49 = .ok (.aload_n 0, 1) := by decide +kernel
theorem d_Mo_built_50 : decode b_Mo_built 50 = .ok (.getfield 19, 3) := by decide +kernel
theorem d_Mo_built_53 : decode b_Mo_built 53 = .ok (.aload_n 0, 1) := by decide +kernel
theorem d_Mo_built_54 : decode b_Mo_built 54 = .ok (.getfield 118, 3) := by decide +kernel
theorem d_Mo_built_57 : decode b_Mo_built 57 = .ok (.iload 4, 2) := by decide +kernel
theorem d_Mo_built_59 : decode b_Mo_built 59 = .ok (.iastore, 1) := by decide +kernel
theorem d_Mo_built_60 : decode b_Mo_built 60 = .ok (.aload_n 0, 1) := by decide +kernel
theorem d_Mo_built_61 : decode b_Mo_built 61 = .ok (.getfield 23, 3) := by decide +kernel
theorem d_Mo_built_64 : decode b_Mo_built 64 = .ok (.aload_n 0, 1) := by decide +kernel
theorem d_Mo_built_65 : decode b_Mo_built 65 = .ok (.getfield 118, 3) := by decide +kernel
theorem d_Mo_built_68 : decode b_Mo_built 68 = .ok (.iload_n 3, 1) := by decide +kernel
theorem d_Mo_built_69 : decode b_Mo_built 69 = .ok (.iastore, 1) := by decide +kernel
theorem d_Mo_built_70 : decode b_Mo_built 70 = .ok (.aload_n 0, 1) := by decide +kernel
theorem d_Mo_built_71 : decode b_Mo_built 71 = .ok (.dup, 1) := by decide +kernel
theorem d_Mo_built_72 : decode b_Mo_built 72 = .ok (.getfield 118, 3) := by decide +kernel
theorem d_Mo_built_75 : decode b_Mo_built 75 = .ok (.iconst 1, 1) := by decide +kernel
theorem d_Mo_built_76 : decode b_Mo_built 76 = .ok (.iadd, 1) := by decide +kernel
theorem d_Mo_built_77 : decode b_Mo_built 77 = .ok (.putfield 118, 3) := by decide +kernel
theorem d_Mo_built_80 : decode b_Mo_built 80 = .ok (.return_, 1) := by decide +kernel
theorem q_Mo_built : aw_q1 y_Mo_built b_Mo_built 7 none 2 := ⟨k_846, k_79, ⟨by decide, by decide, by decide +kernel⟩, by decide⟩
def y_Mo_thrown : MethodName := ⟨"RescanDeskModel", "thrown", "()I"⟩
abbrev b_Mo_thrown : ByteArray := prog_14_method_3_code
theorem d_Mo_thrown_0 : decode b_Mo_thrown 0 = .ok (.aload_n 0, 1) := by decide +kernel
theorem d_Mo_thrown_1 : decode b_Mo_thrown 1 = .ok (.getfield 124, 3) := by decide +kernel
theorem d_Mo_thrown_4 : decode b_Mo_thrown 4 = .ok (.ireturn, 1) := by decide +kernel
theorem q_Mo_thrown : aw_q1 y_Mo_thrown b_Mo_thrown 1 (some .int) 0 := ⟨k_983, k_79, ⟨by decide, by decide, by decide +kernel⟩, by decide⟩
def y_Mo_type : MethodName := ⟨"RescanDeskModel", "type", "(C)Z"⟩
abbrev b_Mo_type : ByteArray := prog_14_method_7_code
theorem d_Mo_type_0 : decode b_Mo_type 0 = .ok (.aload_n 0, 1) := by decide +kernel
theorem d_Mo_type_1 : decode b_Mo_type 1 = .ok (.iconst 0, 1) := by decide +kernel
theorem d_Mo_type_2 : decode b_Mo_type 2 = .ok (.putfield 124, 3) := by decide +kernel
theorem d_Mo_type_5 : decode b_Mo_type 5 = .ok (.aload_n 0, 1) := by decide +kernel
theorem d_Mo_type_6 : decode b_Mo_type 6 = .ok (.getfield 130, 3) := by decide +kernel
theorem d_Mo_type_9 : decode b_Mo_type 9 = .ok (.sipush 300, 3) := by decide +kernel
theorem d_Mo_type_12 : decode b_Mo_type 12 = .ok (.if_icmp .ne 5, 3) := by decide +kernel
theorem d_Mo_type_15 : decode b_Mo_type 15 = .ok (.iconst 0, 1) := by decide +kernel
theorem d_Mo_type_16 : decode b_Mo_type 16 = .ok (.ireturn, 1) := by decide +kernel
theorem d_Mo_type_17 : decode b_Mo_type 17 = .ok (.aload_n 0, 1) := by decide +kernel
theorem d_Mo_type_18 : decode b_Mo_type 18 = .ok (.getfield 7, 3) := by decide +kernel
theorem d_Mo_type_21 : decode b_Mo_type 21 = .ok (.aload_n 0, 1) := by decide +kernel
theorem d_Mo_type_22 : decode b_Mo_type 22 = .ok (.getfield 130, 3) := by decide +kernel
theorem d_Mo_type_25 : decode b_Mo_type 25 = .ok (.iload_n 1, 1) := by decide +kernel
theorem d_Mo_type_26 : decode b_Mo_type 26 = .ok (.castore, 1) := by decide +kernel
theorem d_Mo_type_27 : decode b_Mo_type 27 = .ok (.aload_n 0, 1) := by decide +kernel
theorem d_Mo_type_28 : decode b_Mo_type 28 = .ok (.dup, 1) := by decide +kernel
theorem d_Mo_type_29 : decode b_Mo_type 29 = .ok (.getfield 130, 3) := by decide +kernel
theorem d_Mo_type_32 : decode b_Mo_type 32 = .ok (.iconst 1, 1) := by decide +kernel
theorem d_Mo_type_33 : decode b_Mo_type 33 = .ok (.iadd, 1) := by decide +kernel
theorem d_Mo_type_34 : decode b_Mo_type 34 = .ok (.putfield 130, 3) := by decide +kernel
theorem d_Mo_type_37 : decode b_Mo_type 37 = .ok (.iconst 1, 1) := by decide +kernel
theorem d_Mo_type_38 : decode b_Mo_type 38 = .ok (.ireturn, 1) := by decide +kernel
theorem q_Mo_type : aw_q1 y_Mo_type b_Mo_type 2 (some .boolean) 1 := ⟨k_987, k_79, ⟨by decide, by decide, by decide +kernel⟩, by decide⟩
def y_Mo_clear : MethodName := ⟨"RescanDeskModel", "clear", "()I"⟩
abbrev b_Mo_clear : ByteArray := prog_14_method_8_code
theorem d_Mo_clear_0 : decode b_Mo_clear 0 = .ok (.aload_n 0, 1) := by decide +kernel
theorem d_Mo_clear_1 : decode b_Mo_clear 1 = .ok (.iconst 0, 1) := by decide +kernel
theorem d_Mo_clear_2 : decode b_Mo_clear 2 = .ok (.putfield 124, 3) := by decide +kernel
theorem d_Mo_clear_5 : decode b_Mo_clear 5 = .ok (.aload_n 0, 1) := by decide +kernel
theorem d_Mo_clear_6 : decode b_Mo_clear 6 = .ok (.getfield 130, 3) := by decide +kernel
theorem d_Mo_clear_9 : decode b_Mo_clear 9 = .ok (.istore_n 1, 1) := by decide +kernel
theorem d_Mo_clear_10 : decode b_Mo_clear 10 = .ok (.aload_n 0, 1) := by decide +kernel
theorem d_Mo_clear_11 : decode b_Mo_clear 11 = .ok (.iconst 0, 1) := by decide +kernel
theorem d_Mo_clear_12 : decode b_Mo_clear 12 = .ok (.putfield 130, 3) := by decide +kernel
theorem d_Mo_clear_15 : decode b_Mo_clear 15 = .ok (.iload_n 1, 1) := by decide +kernel
theorem d_Mo_clear_16 : decode b_Mo_clear 16 = .ok (.ireturn, 1) := by decide +kernel
theorem q_Mo_clear : aw_q1 y_Mo_clear b_Mo_clear 2 (some .int) 0 := ⟨k_991, k_79, ⟨by decide, by decide, by decide +kernel⟩, by decide⟩
def y_Mo_output : MethodName := ⟨"RescanDeskModel", "output", "(II)C"⟩
abbrev b_Mo_output : ByteArray := prog_14_method_9_code
theorem d_Mo_output_0 : decode b_Mo_output 0 = .ok (.aload_n 0, 1) := by decide +kernel
theorem d_Mo_output_1 : decode b_Mo_output 1 = .ok (.iload_n 1, 1) := by decide +kernel
theorem d_Mo_output_2 : decode b_Mo_output 2 = .ok (.iconst 0, 1) := by decide +kernel
theorem d_Mo_output_3 : decode b_Mo_output 3 = .ok (.iconst 3, 1) := by decide +kernel
theorem d_Mo_output_4 : decode b_Mo_output 4 = .ok (.invokestatic 133, 3) := by decide +kernel
theorem d_Mo_output_7 : decode b_Mo_output 7 = .ok (.ifCond .ne 7, 3) := by decide +kernel
theorem d_Mo_output_10 : decode b_Mo_output 10 = .ok (.iconst 1, 1) := by decide +kernel
theorem d_Mo_output_11 : decode b_Mo_output 11 = .ok (.goto 24, 3) := by decide +kernel
theorem d_Mo_output_14 : decode b_Mo_output 14 = .ok (.iload_n 2, 1) := by decide +kernel
theorem d_Mo_output_15 : decode b_Mo_output 15 = .ok (.iconst 0, 1) := by decide +kernel
theorem d_Mo_output_16 : decode b_Mo_output 16 = .ok (.aload_n 0, 1) := by decide +kernel
theorem d_Mo_output_17 : decode b_Mo_output 17 = .ok (.getfield 66, 3) := by decide +kernel
theorem d_Mo_output_20 : decode b_Mo_output 20 = .ok (.iload_n 1, 1) := by decide +kernel
theorem d_Mo_output_21 : decode b_Mo_output 21 = .ok (.iaload, 1) := by decide +kernel
theorem d_Mo_output_22 : decode b_Mo_output 22 = .ok (.iconst 1, 1) := by decide +kernel
theorem d_Mo_output_23 : decode b_Mo_output 23 = .ok (.isub, 1) := by decide +kernel
theorem d_Mo_output_24 : decode b_Mo_output 24 = .ok (.invokestatic 133, 3) := by decide +kernel
theorem d_Mo_output_27 : decode b_Mo_output 27 = .ok (.ifCond .ne 7, 3) := by decide +kernel
theorem d_Mo_output_30 : decode b_Mo_output 30 = .ok (.iconst 2, 1) := by decide +kernel
theorem d_Mo_output_31 : decode b_Mo_output 31 = .ok (.goto 4, 3) := by decide +kernel
theorem d_Mo_output_34 : decode b_Mo_output 34 = .ok (.iconst 0, 1) := by decide +kernel
theorem d_Mo_output_35 : decode b_Mo_output 35 = .ok (.putfield 124, 3) := by decide +kernel
theorem d_Mo_output_38 : decode b_Mo_output 38 = .ok (.aload_n 0, 1) := by decide +kernel
theorem d_Mo_output_39 : decode b_Mo_output 39 = .ok (.getfield 124, 3) := by decide +kernel
theorem d_Mo_output_42 : decode b_Mo_output 42 = .ok (.ifCond .le 8, 3) := by decide +kernel
theorem d_Mo_output_45 : decode b_Mo_output 45 = .ok (.bipush 32, 2) := by decide +kernel
theorem d_Mo_output_47 : decode b_Mo_output 47 = .ok (.goto 15, 3) := by decide +kernel
theorem d_Mo_output_50 : decode b_Mo_output 50 = .ok (.aload_n 0, 1) := by decide +kernel
theorem d_Mo_output_51 : decode b_Mo_output 51 = .ok (.getfield 63, 3) := by decide +kernel
theorem d_Mo_output_54 : decode b_Mo_output 54 = .ok (.sipush 300, 3) := by decide +kernel
theorem d_Mo_output_57 : decode b_Mo_output 57 = .ok (.iload_n 1, 1) := by decide +kernel
theorem d_Mo_output_58 : decode b_Mo_output 58 = .ok (.imul, 1) := by decide +kernel
theorem d_Mo_output_59 : decode b_Mo_output 59 = .ok (.iload_n 2, 1) := by decide +kernel
theorem d_Mo_output_60 : decode b_Mo_output 60 = .ok (.iadd, 1) := by decide +kernel
theorem d_Mo_output_61 : decode b_Mo_output 61 = .ok (.caload, 1) := by decide +kernel
theorem d_Mo_output_62 : decode b_Mo_output 62 = .ok (.ireturn, 1) := by decide +kernel
theorem q_Mo_output : aw_q1 y_Mo_output b_Mo_output 3 (some .char) 2 := ⟨k_995, k_79, ⟨by decide, by decide, by decide +kernel⟩, by decide⟩
def y_Mo_in : MethodName := ⟨"RescanDeskModel", "in", "(III)Z"⟩
abbrev b_Mo_in : ByteArray := prog_14_method_5_code
theorem d_Mo_in_0 : decode b_Mo_in 0 = .ok (.iload_n 0, 1) := by decide +kernel
theorem d_Mo_in_1 : decode b_Mo_in 1 = .ok (.iload_n 1, 1) := by decide +kernel
theorem d_Mo_in_2 : decode b_Mo_in 2 = .ok (.if_icmp .lt 12, 3) := by decide +kernel
theorem d_Mo_in_5 : decode b_Mo_in 5 = .ok (.iload_n 0, 1) := by decide +kernel
theorem d_Mo_in_6 : decode b_Mo_in 6 = .ok (.iload_n 2, 1) := by decide +kernel
theorem d_Mo_in_7 : decode b_Mo_in 7 = .ok (.if_icmp .gt 7, 3) := by decide +kernel
theorem d_Mo_in_10 : decode b_Mo_in 10 = .ok (.iconst 1, 1) := by decide +kernel
theorem d_Mo_in_11 : decode b_Mo_in 11 = .ok (.goto 4, 3) := by decide +kernel
theorem d_Mo_in_14 : decode b_Mo_in 14 = .ok (.iconst 0, 1) := by decide +kernel
theorem d_Mo_in_15 : decode b_Mo_in 15 = .ok (.ireturn, 1) := by decide +kernel
theorem q_Mo_in : aw_q1 y_Mo_in b_Mo_in 3 (some .boolean) 3 := ⟨k_998, k_79, ⟨by decide, by decide, by decide +kernel⟩, by decide⟩
def y_Mo_run : MethodName := ⟨"RescanDeskModel", "run", "(I)I"⟩
abbrev b_Mo_run : ByteArray := prog_14_method_17_code
theorem d_Mo_run_0 : decode b_Mo_run 0 = .ok (.aload_n 0, 1) := by decide +kernel
theorem d_Mo_run_1 : decode b_Mo_run 1 = .ok (.iload_n 1, 1) := by decide +kernel
theorem d_Mo_run_2 : decode b_Mo_run 2 = .ok (.iconst 0, 1) := by decide +kernel
theorem d_Mo_run_3 : decode b_Mo_run 3 = .ok (.sipush 5000, 3) := by decide +kernel
theorem d_Mo_run_6 : decode b_Mo_run 6 = .ok (.invokestatic 133, 3) := by decide +kernel
theorem d_Mo_run_9 : decode b_Mo_run 9 = .ok (.ifCond .eq 7, 3) := by decide +kernel
theorem d_Mo_run_12 : decode b_Mo_run 12 = .ok (.iconst 0, 1) := by decide +kernel
theorem d_Mo_run_13 : decode b_Mo_run 13 = .ok (.goto 4, 3) := by decide +kernel
theorem d_Mo_run_16 : decode b_Mo_run 16 = .ok (.iconst 1, 1) := by decide +kernel
theorem d_Mo_run_17 : decode b_Mo_run 17 = .ok (.putfield 124, 3) := by decide +kernel
theorem d_Mo_run_20 : decode b_Mo_run 20 = .ok (.aload_n 0, 1) := by decide +kernel
theorem d_Mo_run_21 : decode b_Mo_run 21 = .ok (.getfield 124, 3) := by decide +kernel
theorem d_Mo_run_24 : decode b_Mo_run 24 = .ok (.ifCond .le 5, 3) := by decide +kernel
theorem d_Mo_run_27 : decode b_Mo_run 27 = .ok (.iconst 0, 1) := by decide +kernel
theorem d_Mo_run_28 : decode b_Mo_run 28 = .ok (.ireturn, 1) := by decide +kernel
theorem d_Mo_run_29 : decode b_Mo_run 29 = .ok (.aload_n 0, 1) := by decide +kernel
theorem d_Mo_run_30 : decode b_Mo_run 30 = .ok (.aload_n 0, 1) := by decide +kernel
theorem d_Mo_run_31 : decode b_Mo_run 31 = .ok (.getfield 130, 3) := by decide +kernel
theorem d_Mo_run_34 : decode b_Mo_run 34 = .ok (.putfield 150, 3) := by decide +kernel
theorem d_Mo_run_37 : decode b_Mo_run 37 = .ok (.iconst 0, 1) := by decide +kernel
theorem d_Mo_run_38 : decode b_Mo_run 38 = .ok (.istore_n 2, 1) := by decide +kernel
theorem d_Mo_run_39 : decode b_Mo_run 39 = .ok (.iload_n 2, 1) := by decide +kernel
theorem d_Mo_run_40 : decode b_Mo_run 40 = .ok (.aload_n 0, 1) := by decide +kernel
theorem d_Mo_run_41 : decode b_Mo_run 41 = .ok (.getfield 130, 3) := by decide +kernel
theorem d_Mo_run_44 : decode b_Mo_run 44 = .ok (.if_icmp .ge 28, 3) := by decide +kernel
theorem d_Mo_run_47 : decode b_Mo_run 47 = .ok (.aload_n 0, 1) := by decide +kernel
theorem d_Mo_run_48 : decode b_Mo_run 48 = .ok (.getfield 13, 3) := by decide +kernel
theorem d_Mo_run_51 : decode b_Mo_run 51 = .ok (.aload_n 0, 1) := by decide +kernel
theorem d_Mo_run_52 : decode b_Mo_run 52 = .ok (.getfield 150, 3) := by decide +kernel
theorem d_Mo_run_55 : decode b_Mo_run 55 = .ok (.iconst 1, 1) := by decide +kernel
theorem d_Mo_run_56 : decode b_Mo_run 56 = .ok (.isub, 1) := by decide +kernel
theorem d_Mo_run_57 : decode b_Mo_run 57 = .ok (.iload_n 2, 1) := by decide +kernel
theorem d_Mo_run_58 : decode b_Mo_run 58 = .ok (.isub, 1) := by decide +kernel
theorem d_Mo_run_59 : decode b_Mo_run 59 = .ok (.aload_n 0, 1) := by decide +kernel
theorem d_Mo_run_60 : decode b_Mo_run 60 = .ok (.getfield 7, 3) := by decide +kernel
theorem d_Mo_run_63 : decode b_Mo_run 63 = .ok (.iload_n 2, 1) := by decide +kernel
theorem d_Mo_run_64 : decode b_Mo_run 64 = .ok (.caload, 1) := by decide +kernel
theorem d_Mo_run_65 : decode b_Mo_run 65 = .ok (.castore, 1) := by decide +kernel
theorem d_Mo_run_66 : decode b_Mo_run 66 = .ok (.iinc 2 1, 3) := by decide +kernel
theorem d_Mo_run_69 : decode b_Mo_run 69 = .ok (.goto (-30), 3) := by decide +kernel
theorem d_Mo_run_72 : decode b_Mo_run 72 = .ok (.aload_n 0, 1) := by decide +kernel
theorem d_Mo_run_73 : decode b_Mo_run 73 = .ok (.iconst 0, 1) := by decide +kernel
theorem d_Mo_run_74 : decode b_Mo_run 74 = .ok (.putfield 130, 3) := by decide +kernel
theorem d_Mo_run_77 : decode b_Mo_run 77 = .ok (.aload_n 0, 1) := by decide +kernel
theorem d_Mo_run_78 : decode b_Mo_run 78 = .ok (.iconst 0, 1) := by decide +kernel
theorem d_Mo_run_79 : decode b_Mo_run 79 = .ok (.putfield 137, 3) := by decide +kernel
theorem d_Mo_run_82 : decode b_Mo_run 82 = .ok (.aload_n 0, 1) := by decide +kernel
theorem d_Mo_run_83 : decode b_Mo_run 83 = .ok (.iconst 0, 1) := by decide +kernel
theorem d_Mo_run_84 : decode b_Mo_run 84 = .ok (.putfield 140, 3) := by decide +kernel
theorem d_Mo_run_87 : decode b_Mo_run 87 = .ok (.aload_n 0, 1) := by decide +kernel
theorem d_Mo_run_88 : decode b_Mo_run 88 = .ok (.iconst 0, 1) := by decide +kernel
theorem d_Mo_run_89 : decode b_Mo_run 89 = .ok (.putfield 147, 3) := by decide +kernel
theorem d_Mo_run_92 : decode b_Mo_run 92 = .ok (.aload_n 0, 1) := by decide +kernel
theorem d_Mo_run_93 : decode b_Mo_run 93 = .ok (.iconst 0, 1) := by decide +kernel
theorem d_Mo_run_94 : decode b_Mo_run 94 = .ok (.putfield 127, 3) := by decide +kernel
theorem d_Mo_run_97 : decode b_Mo_run 97 = .ok (.aload_n 0, 1) := by decide +kernel
theorem d_Mo_run_98 : decode b_Mo_run 98 = .ok (.iconst 0, 1) := by decide +kernel
theorem d_Mo_run_99 : decode b_Mo_run 99 = .ok (.putfield 157, 3) := by decide +kernel
theorem d_Mo_run_102 : decode b_Mo_run 102 = .ok (.aload_n 0, 1) := by decide +kernel
theorem d_Mo_run_103 : decode b_Mo_run 103 = .ok (.iconst 0, 1) := by decide +kernel
theorem d_Mo_run_104 : decode b_Mo_run 104 = .ok (.putfield 160, 3) := by decide +kernel
theorem d_Mo_run_107 : decode b_Mo_run 107 = .ok (.iconst 0, 1) := by decide +kernel
theorem d_Mo_run_108 : decode b_Mo_run 108 = .ok (.istore_n 2, 1) := by decide +kernel
theorem d_Mo_run_109 : decode b_Mo_run 109 = .ok (.iload_n 2, 1) := by decide +kernel
theorem d_Mo_run_110 : decode b_Mo_run 110 = .ok (.iconst 4, 1) := by decide +kernel
theorem d_Mo_run_111 : decode b_Mo_run 111 = .ok (.if_icmp .ge 16, 3) := by decide +kernel
theorem d_Mo_run_114 : decode b_Mo_run 114 = .ok (.aload_n 0, 1) := by decide +kernel
theorem d_Mo_run_115 : decode b_Mo_run 115 = .ok (.getfield 66, 3) := by decide +kernel
theorem d_Mo_run_118 : decode b_Mo_run 118 = .ok (.iload_n 2, 1) := by decide +kernel
theorem d_Mo_run_119 : decode b_Mo_run 119 = .ok (.iconst 0, 1) := by decide +kernel
theorem d_Mo_run_120 : decode b_Mo_run 120 = .ok (.iastore, 1) := by decide +kernel
theorem d_Mo_run_121 : decode b_Mo_run 121 = .ok (.iinc 2 1, 3) := by decide +kernel
theorem d_Mo_run_124 : decode b_Mo_run 124 = .ok (.goto (-15), 3) := by decide +kernel
theorem d_Mo_run_127 : decode b_Mo_run 127 = .ok (.aload_n 0, 1) := by decide +kernel
theorem d_Mo_run_128 : decode b_Mo_run 128 = .ok (.getfield 127, 3) := by decide +kernel
theorem d_Mo_run_131 : decode b_Mo_run 131 = .ok (.ifCond .ne 33, 3) := by decide +kernel
theorem d_Mo_run_134 : decode b_Mo_run 134 = .ok (.aload_n 0, 1) := by decide +kernel
theorem d_Mo_run_135 : decode b_Mo_run 135 = .ok (.getfield 150, 3) := by decide +kernel
theorem d_Mo_run_138 : decode b_Mo_run 138 = .ok (.ifCond .le 26, 3) := by decide +kernel
theorem d_Mo_run_141 : decode b_Mo_run 141 = .ok (.aload_n 0, 1) := by decide +kernel
theorem d_Mo_run_142 : decode b_Mo_run 142 = .ok (.getfield 157, 3) := by decide +kernel
theorem d_Mo_run_145 : decode b_Mo_run 145 = .ok (.iload_n 1, 1) := by decide +kernel
theorem d_Mo_run_146 : decode b_Mo_run 146 = .ok (.if_icmp .ne 11, 3) := by decide +kernel
theorem d_Mo_run_149 : decode b_Mo_run 149 = .ok (.aload_n 0, 1) := by decide +kernel
theorem d_Mo_run_150 : decode b_Mo_run 150 = .ok (.iconst 1, 1) := by decide +kernel
theorem d_Mo_run_151 : decode b_Mo_run 151 = .ok (.invokevirtual 143, 3) := by decide +kernel
theorem d_Mo_run_154 : decode b_Mo_run 154 = .ok (.goto (-27), 3) := by decide +kernel
theorem d_Mo_run_157 : decode b_Mo_run 157 = .ok (.aload_n 0, 1) := by decide +kernel
theorem d_Mo_run_158 : decode b_Mo_run 158 = .ok (.invokevirtual 163, 3) := by decide +kernel
theorem d_Mo_run_161 : decode b_Mo_run 161 = .ok (.goto (-34), 3) := by decide +kernel
theorem d_Mo_run_164 : decode b_Mo_run 164 = .ok (.aload_n 0, 1) := by decide +kernel
theorem d_Mo_run_165 : decode b_Mo_run 165 = .ok (.getfield 127, 3) := by decide +kernel
theorem d_Mo_run_168 : decode b_Mo_run 168 = .ok (.ifCond .ne 15, 3) := by decide +kernel
theorem d_Mo_run_171 : decode b_Mo_run 171 = .ok (.aload_n 0, 1) := by decide +kernel
theorem d_Mo_run_172 : decode b_Mo_run 172 = .ok (.getfield 137, 3) := by decide +kernel
theorem d_Mo_run_175 : decode b_Mo_run 175 = .ok (.ifCond .le 8, 3) := by decide +kernel
theorem d_Mo_run_178 : decode b_Mo_run 178 = .ok (.aload_n 0, 1) := by decide +kernel
theorem d_Mo_run_179 : decode b_Mo_run 179 = .ok (.iconst 4, 1) := by decide +kernel
theorem d_Mo_run_180 : decode b_Mo_run 180 = .ok (.invokevirtual 143, 3) := by decide +kernel
theorem d_Mo_run_183 : decode b_Mo_run 183 = .ok (.iconst 1, 1) := by decide +kernel
theorem d_Mo_run_184 : decode b_Mo_run 184 = .ok (.istore_n 2, 1) := by decide +kernel
theorem d_Mo_run_185 : decode b_Mo_run 185 = .ok (.iload_n 2, 1) := by decide +kernel
theorem d_Mo_run_186 : decode b_Mo_run 186 = .ok (.iconst 4, 1) := by decide +kernel
theorem d_Mo_run_187 : decode b_Mo_run 187 = .ok (.if_icmp .ge 15, 3) := by decide +kernel
theorem d_Mo_run_190 : decode b_Mo_run 190 = .ok (.aload_n 0, 1) := by decide +kernel
theorem d_Mo_run_191 : decode b_Mo_run 191 = .ok (.iload_n 2, 1) := by decide +kernel
theorem d_Mo_run_192 : decode b_Mo_run 192 = .ok (.iconst 0, 1) := by decide +kernel
theorem d_Mo_run_193 : decode b_Mo_run 193 = .ok (.invokevirtual 166, 3) := by decide +kernel
theorem d_Mo_run_196 : decode b_Mo_run 196 = .ok (.iinc 2 1, 3) := by decide +kernel
theorem d_Mo_run_199 : decode b_Mo_run 199 = .ok (.goto (-14), 3) := by decide +kernel
theorem d_Mo_run_202 : decode b_Mo_run 202 = .ok (.aload_n 0, 1) := by decide +kernel
theorem d_Mo_run_203 : decode b_Mo_run 203 = .ok (.aload_n 0, 1) := by decide +kernel
theorem d_Mo_run_204 : decode b_Mo_run 204 = .ok (.getfield 127, 3) := by decide +kernel
theorem d_Mo_run_207 : decode b_Mo_run 207 = .ok (.ifCond .ne 7, 3) := by decide +kernel
theorem d_Mo_run_210 : decode b_Mo_run 210 = .ok (.iconst 0, 1) := by decide +kernel
theorem d_Mo_run_211 : decode b_Mo_run 211 = .ok (.goto 7, 3) := by decide +kernel
theorem d_Mo_run_214 : decode b_Mo_run 214 = .ok (.aload_n 0, 1) := by decide +kernel
theorem d_Mo_run_215 : decode b_Mo_run 215 = .ok (.getfield 147, 3) := by decide +kernel
theorem d_Mo_run_218 : decode b_Mo_run 218 = .ok (.putfield 147, 3) := by decide +kernel
theorem d_Mo_run_221 : decode b_Mo_run 221 = .ok (.aload_n 0, 1) := by decide +kernel
theorem d_Mo_run_222 : decode b_Mo_run 222 = .ok (.getfield 127, 3) := by decide +kernel
theorem d_Mo_run_225 : decode b_Mo_run 225 = .ok (.ireturn, 1) := by decide +kernel
theorem q_Mo_run : aw_q1 y_Mo_run b_Mo_run 3 (some .int) 1 := ⟨k_1002, k_79, ⟨by decide, by decide, by decide +kernel⟩, by decide⟩
def y_Mo_stop : MethodName := ⟨"RescanDeskModel", "stop", "(I)V"⟩
abbrev b_Mo_stop : ByteArray := prog_14_method_6_code
theorem d_Mo_stop_0 : decode b_Mo_stop 0 = .ok (.aload_n 0, 1) := by decide +kernel
theorem d_Mo_stop_1 : decode b_Mo_stop 1 = .ok (.getfield 127, 3) := by decide +kernel
theorem d_Mo_stop_4 : decode b_Mo_stop 4 = .ok (.ifCond .ne 8, 3) := by decide +kernel
theorem d_Mo_stop_7 : decode b_Mo_stop 7 = .ok (.aload_n 0, 1) := by decide +kernel
theorem d_Mo_stop_8 : decode b_Mo_stop 8 = .ok (.iload_n 1, 1) := by decide +kernel
theorem d_Mo_stop_9 : decode b_Mo_stop 9 = .ok (.putfield 127, 3) := by decide +kernel
theorem d_Mo_stop_12 : decode b_Mo_stop 12 = .ok (.return_, 1) := by decide +kernel
theorem q_Mo_stop : aw_q1 y_Mo_stop b_Mo_stop 2 none 1 := ⟨k_1006, k_79, ⟨by decide, by decide, by decide +kernel⟩, by decide⟩
def y_Mo_step : MethodName := ⟨"RescanDeskModel", "step", "()V"⟩
abbrev b_Mo_step : ByteArray := prog_14_method_18_code
theorem d_Mo_step_0 : decode b_Mo_step 0 = .ok (.aload_n 0, 1) := by decide +kernel
theorem d_Mo_step_1 : decode b_Mo_step 1 = .ok (.dup, 1) := by decide +kernel
theorem d_Mo_step_2 : decode b_Mo_step 2 = .ok (.getfield 157, 3) := by decide +kernel
theorem d_Mo_step_5 : decode b_Mo_step 5 = .ok (.iconst 1, 1) := by decide +kernel
theorem d_Mo_step_6 : decode b_Mo_step 6 = .ok (.iadd, 1) := by decide +kernel
theorem d_Mo_step_7 : decode b_Mo_step 7 = .ok (.putfield 157, 3) := by decide +kernel
theorem d_Mo_step_10 : decode b_Mo_step 10 = .ok (.aload_n 0, 1) := by decide +kernel
theorem d_Mo_step_11 : decode b_Mo_step 11 = .ok (.iconst 0, 1) := by decide +kernel
theorem d_Mo_step_12 : decode b_Mo_step 12 = .ok (.invokevirtual 170, 3) := by decide +kernel
theorem d_Mo_step_15 : decode b_Mo_step 15 = .ok (.istore_n 1, 1) := by decide +kernel
theorem d_Mo_step_16 : decode b_Mo_step 16 = .ok (.iload_n 1, 1) := by decide +kernel
theorem d_Mo_step_17 : decode b_Mo_step 17 = .ok (.bipush 96, 2) := by decide +kernel
theorem d_Mo_step_19 : decode b_Mo_step 19 = .ok (.if_icmp .ne 10, 3) := by decide +kernel
theorem d_Mo_step_22 : decode b_Mo_step 22 = .ok (.aload_n 0, 1) := by decide +kernel
theorem d_Mo_step_23 : decode b_Mo_step 23 = .ok (.invokevirtual 174, 3) := by decide +kernel
theorem d_Mo_step_26 : decode b_Mo_step 26 = .ok (.goto 49, 3) := by decide +kernel
theorem d_Mo_step_29 : decode b_Mo_step 29 = .ok (.iload_n 1, 1) := by decide +kernel
theorem d_Mo_step_30 : decode b_Mo_step 30 = .ok (.invokestatic 177, 3) := by decide +kernel
theorem d_Mo_step_33 : decode b_Mo_step 33 = .ok (.ifCond .eq 10, 3) := by decide +kernel
theorem d_Mo_step_36 : decode b_Mo_step 36 = .ok (.aload_n 0, 1) := by decide +kernel
theorem d_Mo_step_37 : decode b_Mo_step 37 = .ok (.invokevirtual 181, 3) := by decide +kernel
theorem d_Mo_step_40 : decode b_Mo_step 40 = .ok (.goto 35, 3) := by decide +kernel
theorem d_Mo_step_43 : decode b_Mo_step 43 = .ok (.aload_n 0, 1) := by decide +kernel
theorem d_Mo_step_44 : decode b_Mo_step 44 = .ok (.getfield 137, 3) := by decide +kernel
theorem d_Mo_step_47 : decode b_Mo_step 47 = .ok (.ifCond .le 12, 3) := by decide +kernel
theorem d_Mo_step_50 : decode b_Mo_step 50 = .ok (.aload_n 0, 1) := by decide +kernel
theorem d_Mo_step_51 : decode b_Mo_step 51 = .ok (.iload_n 1, 1) := by decide +kernel
theorem d_Mo_step_52 : decode b_Mo_step 52 = .ok (.i2c, 1) := by decide +kernel
theorem d_Mo_step_53 : decode b_Mo_step 53 = .ok (.invokevirtual 184, 3) := by decide +kernel
theorem d_Mo_step_56 : decode b_Mo_step 56 = .ok (.goto 19, 3) := by decide +kernel
theorem d_Mo_step_59 : decode b_Mo_step 59 = .ok (.aload_n 0, 1) := by decide +kernel
theorem d_Mo_step_60 : decode b_Mo_step 60 = .ok (.dup, 1) := by decide +kernel
theorem d_Mo_step_61 : decode b_Mo_step 61 = .ok (.getfield 150, 3) := by decide +kernel
theorem d_Mo_step_64 : decode b_Mo_step 64 = .ok (.iconst 1, 1) := by decide +kernel
theorem d_Mo_step_65 : decode b_Mo_step 65 = .ok (.isub, 1) := by decide +kernel
theorem d_Mo_step_66 : decode b_Mo_step 66 = .ok (.putfield 150, 3) := by decide +kernel
theorem d_Mo_step_69 : decode b_Mo_step 69 = .ok (.aload_n 0, 1) := by decide +kernel
theorem d_Mo_step_70 : decode b_Mo_step 70 = .ok (.iload_n 1, 1) := by decide +kernel
theorem d_Mo_step_71 : decode b_Mo_step 71 = .ok (.i2c, 1) := by decide +kernel
theorem d_Mo_step_72 : decode b_Mo_step 72 = .ok (.invokevirtual 188, 3) := by decide +kernel
theorem d_Mo_step_75 : decode b_Mo_step 75 = .ok (.return_, 1) := by decide +kernel
theorem q_Mo_step : aw_q1 y_Mo_step b_Mo_step 2 none 0 := ⟨k_1010, k_79, ⟨by decide, by decide, by decide +kernel⟩, by decide⟩
def y_Mo_next : MethodName := ⟨"RescanDeskModel", "next", "(I)I"⟩
abbrev b_Mo_next : ByteArray := prog_14_method_14_code
theorem d_Mo_next_0 : decode b_Mo_next 0 = .ok (.iload_n 1, 1) := by decide +kernel
theorem d_Mo_next_1 : decode b_Mo_next 1 = .ok (.aload_n 0, 1) := by decide +kernel
theorem d_Mo_next_2 : decode b_Mo_next 2 = .ok (.getfield 150, 3) := by decide +kernel
theorem d_Mo_next_5 : decode b_Mo_next 5 = .ok (.if_icmp .ge 19, 3) := by decide +kernel
theorem d_Mo_next_8 : decode b_Mo_next 8 = .ok (.aload_n 0, 1) := by decide +kernel
theorem d_Mo_next_9 : decode b_Mo_next 9 = .ok (.getfield 13, 3) := by decide +kernel
theorem d_Mo_next_12 : decode b_Mo_next 12 = .ok (.aload_n 0, 1) := by decide +kernel
theorem d_Mo_next_13 : decode b_Mo_next 13 = .ok (.getfield 150, 3) := by decide +kernel
theorem d_Mo_next_16 : decode b_Mo_next 16 = .ok (.iconst 1, 1) := by decide +kernel
theorem d_Mo_next_17 : decode b_Mo_next 17 = .ok (.isub, 1) := by decide +kernel
theorem d_Mo_next_18 : decode b_Mo_next 18 = .ok (.iload_n 1, 1) := by decide +kernel
theorem d_Mo_next_19 : decode b_Mo_next 19 = .ok (.isub, 1) := by decide +kernel
theorem d_Mo_next_20 : decode b_Mo_next 20 = .ok (.caload, 1) := by decide +kernel
theorem d_Mo_next_21 : decode b_Mo_next 21 = .ok (.goto 4, 3) := by decide +kernel
theorem d_Mo_next_24 : decode b_Mo_next 24 = .ok (.iconst (-1), 1) := by decide +kernel
theorem d_Mo_next_25 : decode b_Mo_next 25 = .ok (.ireturn, 1) := by decide +kernel
theorem q_Mo_next : aw_q1 y_Mo_next b_Mo_next 2 (some .int) 1 := ⟨k_1014, k_79, ⟨by decide, by decide, by decide +kernel⟩, by decide⟩
def y_Mo_quoted : MethodName := ⟨"RescanDeskModel", "quoted", "()V"⟩
abbrev b_Mo_quoted : ByteArray := prog_14_method_19_code
theorem d_Mo_quoted_0 : decode b_Mo_quoted 0 = .ok (.iconst 1, 1) := by decide +kernel
theorem d_Mo_quoted_1 : decode b_Mo_quoted 1 = .ok (.istore_n 1, 1) := by decide +kernel
theorem d_Mo_quoted_2 : decode b_Mo_quoted 2 = .ok (.iconst 1, 1) := by decide +kernel
theorem d_Mo_quoted_3 : decode b_Mo_quoted 3 = .ok (.istore_n 2, 1) := by decide +kernel
theorem d_Mo_quoted_4 : decode b_Mo_quoted 4 = .ok (.iload_n 1, 1) := by decide +kernel
theorem d_Mo_quoted_5 : decode b_Mo_quoted 5 = .ok (.ifCond .le 49, 3) := by decide +kernel
theorem d_Mo_quoted_8 : decode b_Mo_quoted 8 = .ok (.iload_n 2, 1) := by decide +kernel
theorem d_Mo_quoted_9 : decode b_Mo_quoted 9 = .ok (.aload_n 0, 1) := by decide +kernel
theorem d_Mo_quoted_10 : decode b_Mo_quoted 10 = .ok (.getfield 150, 3) := by decide +kernel
theorem d_Mo_quoted_13 : decode b_Mo_quoted 13 = .ok (.if_icmp .ge 41, 3) := by decide +kernel
theorem d_Mo_quoted_16 : decode b_Mo_quoted 16 = .ok (.iload_n 1, 1) := by decide +kernel
theorem d_Mo_quoted_17 : decode b_Mo_quoted 17 = .ok (.aload_n 0, 1) := by decide +kernel
theorem d_Mo_quoted_18 : decode b_Mo_quoted 18 = .ok (.iload_n 2, 1) := by decide +kernel
theorem d_Mo_quoted_19 : decode b_Mo_quoted 19 = .ok (.invokevirtual 170, 3) := by decide +kernel
theorem d_Mo_quoted_22 : decode b_Mo_quoted 22 = .ok (.bipush 96, 2) := by decide +kernel
theorem d_Mo_quoted_24 : decode b_Mo_quoted 24 = .ok (.if_icmp .ne 7, 3) := by decide +kernel
theorem d_Mo_quoted_27 : decode b_Mo_quoted 27 = .ok (.iconst 1, 1) := by decide +kernel
theorem d_Mo_quoted_28 : decode b_Mo_quoted 28 = .ok (.goto 18, 3) := by decide +kernel
theorem d_Mo_quoted_31 : decode b_Mo_quoted 31 = .ok (.aload_n 0, 1) := by decide +kernel
theorem d_Mo_quoted_32 : decode b_Mo_quoted 32 = .ok (.iload_n 2, 1) := by decide +kernel
theorem d_Mo_quoted_33 : decode b_Mo_quoted 33 = .ok (.invokevirtual 170, 3) := by decide +kernel
theorem d_Mo_quoted_36 : decode b_Mo_quoted 36 = .ok (.bipush 39, 2) := by decide +kernel
theorem d_Mo_quoted_38 : decode b_Mo_quoted 38 = .ok (.if_icmp .ne 7, 3) := by decide +kernel
theorem d_Mo_quoted_41 : decode b_Mo_quoted 41 = .ok (.iconst (-1), 1) := by decide +kernel
theorem d_Mo_quoted_42 : decode b_Mo_quoted 42 = .ok (.goto 4, 3) := by decide +kernel
theorem d_Mo_quoted_45 : decode b_Mo_quoted 45 = .ok (.iconst 0, 1) := by decide +kernel
theorem d_Mo_quoted_46 : decode b_Mo_quoted 46 = .ok (.iadd, 1) := by decide +kernel
theorem d_Mo_quoted_47 : decode b_Mo_quoted 47 = .ok (.istore_n 1, 1) := by decide +kernel
theorem d_Mo_quoted_48 : decode b_Mo_quoted 48 = .ok (.iinc 2 1, 3) := by decide +kernel
theorem d_Mo_quoted_51 : decode b_Mo_quoted 51 = .ok (.goto (-47), 3) := by decide +kernel
theorem d_Mo_quoted_54 : decode b_Mo_quoted 54 = .ok (.iload_n 1, 1) := by decide +kernel
theorem d_Mo_quoted_55 : decode b_Mo_quoted 55 = .ok (.ifCond .le 9, 3) := by decide +kernel
theorem d_Mo_quoted_58 : decode b_Mo_quoted 58 = .ok (.aload_n 0, 1) := by decide +kernel
theorem d_Mo_quoted_59 : decode b_Mo_quoted 59 = .ok (.iconst 3, 1) := by decide +kernel
theorem d_Mo_quoted_60 : decode b_Mo_quoted 60 = .ok (.invokevirtual 143, 3) := by decide +kernel
theorem d_Mo_quoted_63 : decode b_Mo_quoted 63 = .ok (.return_, 1) := by decide +kernel
theorem d_Mo_quoted_64 : decode b_Mo_quoted 64 = .ok (.aload_n 0, 1) := by decide +kernel
theorem d_Mo_quoted_65 : decode b_Mo_quoted 65 = .ok (.getfield 137, 3) := by decide +kernel
theorem d_Mo_quoted_68 : decode b_Mo_quoted 68 = .ok (.ifCond .le 15, 3) := by decide +kernel
theorem d_Mo_quoted_71 : decode b_Mo_quoted 71 = .ok (.aload_n 0, 1) := by decide +kernel
theorem d_Mo_quoted_72 : decode b_Mo_quoted 72 = .ok (.getfield 56, 3) := by decide +kernel
theorem d_Mo_quoted_75 : decode b_Mo_quoted 75 = .ok (.aload_n 0, 1) := by decide +kernel
theorem d_Mo_quoted_76 : decode b_Mo_quoted 76 = .ok (.getfield 137, 3) := by decide +kernel
theorem d_Mo_quoted_79 : decode b_Mo_quoted 79 = .ok (.iconst 1, 1) := by decide +kernel
theorem d_Mo_quoted_80 : decode b_Mo_quoted 80 = .ok (.isub, 1) := by decide +kernel
theorem d_Mo_quoted_81 : decode b_Mo_quoted 81 = .ok (.iconst 1, 1) := by decide +kernel
theorem d_Mo_quoted_82 : decode b_Mo_quoted 82 = .ok (.bastore, 1) := by decide +kernel
theorem d_Mo_quoted_83 : decode b_Mo_quoted 83 = .ok (.aload_n 0, 1) := by decide +kernel
theorem d_Mo_quoted_84 : decode b_Mo_quoted 84 = .ok (.getfield 150, 3) := by decide +kernel
theorem d_Mo_quoted_87 : decode b_Mo_quoted 87 = .ok (.istore_n 3, 1) := by decide +kernel
theorem d_Mo_quoted_88 : decode b_Mo_quoted 88 = .ok (.aload_n 0, 1) := by decide +kernel
theorem d_Mo_quoted_89 : decode b_Mo_quoted 89 = .ok (.dup, 1) := by decide +kernel
theorem d_Mo_quoted_90 : decode b_Mo_quoted 90 = .ok (.getfield 150, 3) := by decide +kernel
theorem d_Mo_quoted_93 : decode b_Mo_quoted 93 = .ok (.iload_n 2, 1) := by decide +kernel
theorem d_Mo_quoted_94 : decode b_Mo_quoted 94 = .ok (.isub, 1) := by decide +kernel
theorem d_Mo_quoted_95 : decode b_Mo_quoted 95 = .ok (.putfield 150, 3) := by decide +kernel
theorem d_Mo_quoted_98 : decode b_Mo_quoted 98 = .ok (.iconst 1, 1) := by decide +kernel
theorem d_Mo_quoted_99 : decode b_Mo_quoted 99 = .ok (.istore 4, 2) := by decide +kernel
theorem d_Mo_quoted_101 : decode b_Mo_quoted 101 = .ok (.iload 4, 2) := by decide +kernel
theorem d_Mo_quoted_103 : decode b_Mo_quoted 103 = .ok (.iload_n 2, 1) := by decide +kernel
theorem d_Mo_quoted_104 : decode b_Mo_quoted 104 = .ok (.iconst 1, 1) := by decide +kernel
theorem d_Mo_quoted_105 : decode b_Mo_quoted 105 = .ok (.isub, 1) := by decide +kernel
theorem d_Mo_quoted_106 : decode b_Mo_quoted 106 = .ok (.if_icmp .ge 24, 3) := by decide +kernel
theorem d_Mo_quoted_109 : decode b_Mo_quoted 109 = .ok (.aload_n 0, 1) := by decide +kernel
theorem d_Mo_quoted_110 : decode b_Mo_quoted 110 = .ok (.aload_n 0, 1) := by decide +kernel
theorem d_Mo_quoted_111 : decode b_Mo_quoted 111 = .ok (.getfield 13, 3) := by decide +kernel
theorem d_Mo_quoted_114 : decode b_Mo_quoted 114 = .ok (.iload_n 3, 1) := by decide +kernel
theorem d_Mo_quoted_115 : decode b_Mo_quoted 115 = .ok (.iconst 1, 1) := by decide +kernel
theorem d_Mo_quoted_116 : decode b_Mo_quoted 116 = .ok (.isub, 1) := by decide +kernel
theorem d_Mo_quoted_117 : decode b_Mo_quoted 117 = .ok (.iload 4, 2) := by decide +kernel
theorem d_Mo_quoted_119 : decode b_Mo_quoted 119 = .ok (.isub, 1) := by decide +kernel
theorem d_Mo_quoted_120 : decode b_Mo_quoted 120 = .ok (.caload, 1) := by decide +kernel
theorem d_Mo_quoted_121 : decode b_Mo_quoted 121 = .ok (.invokevirtual 188, 3) := by decide +kernel
theorem d_Mo_quoted_124 : decode b_Mo_quoted 124 = .ok (.iinc 4 1, 3) := by decide +kernel
theorem d_Mo_quoted_127 : decode b_Mo_quoted 127 = .ok (.goto (-26), 3) := by decide +kernel
theorem d_Mo_quoted_130 : decode b_Mo_quoted 130 = .ok (.return_, 1) := by decide +kernel
theorem q_Mo_quoted : aw_q1 y_Mo_quoted b_Mo_quoted 5 none 0 := ⟨k_1018, k_79, ⟨by decide, by decide, by decide +kernel⟩, by decide⟩
def y_Mo_write : MethodName := ⟨"RescanDeskModel", "write", "(C)V"⟩
abbrev b_Mo_write : ByteArray := prog_14_method_10_code
theorem d_Mo_write_0 : decode b_Mo_write 0 = .ok (.aload_n 0, 1) := by decide +kernel
theorem d_Mo_write_1 : decode b_Mo_write 1 = .ok (.getfield 127, 3) := by decide +kernel
theorem d_Mo_write_4 : decode b_Mo_write 4 = .ok (.ifCond .le 4, 3) := by decide +kernel
theorem d_Mo_write_7 : decode b_Mo_write 7 = .ok (.return_, 1) := by decide +kernel
theorem d_Mo_write_8 : decode b_Mo_write 8 = .ok (.aload_n 0, 1) := by decide +kernel
theorem d_Mo_write_9 : decode b_Mo_write 9 = .ok (.getfield 137, 3) := by decide +kernel
theorem d_Mo_write_12 : decode b_Mo_write 12 = .ok (.ifCond .le 55, 3) := by decide +kernel
theorem d_Mo_write_15 : decode b_Mo_write 15 = .ok (.aload_n 0, 1) := by decide +kernel
theorem d_Mo_write_16 : decode b_Mo_write 16 = .ok (.getfield 140, 3) := by decide +kernel
theorem d_Mo_write_19 : decode b_Mo_write 19 = .ok (.sipush 400, 3) := by decide +kernel
theorem d_Mo_write_22 : decode b_Mo_write 22 = .ok (.if_icmp .ne 11, 3) := by decide +kernel
theorem d_Mo_write_25 : decode b_Mo_write 25 = .ok (.aload_n 0, 1) := by decide +kernel
theorem d_Mo_write_26 : decode b_Mo_write 26 = .ok (.iconst 2, 1) := by decide +kernel
theorem d_Mo_write_27 : decode b_Mo_write 27 = .ok (.invokevirtual 143, 3) := by decide +kernel
theorem d_Mo_write_30 : decode b_Mo_write 30 = .ok (.goto 13, 3) := by decide +kernel
theorem d_Mo_write_33 : decode b_Mo_write 33 = .ok (.aload_n 0, 1) := by decide +kernel
theorem d_Mo_write_34 : decode b_Mo_write 34 = .ok (.getfield 60, 3) := by decide +kernel
theorem d_Mo_write_37 : decode b_Mo_write 37 = .ok (.aload_n 0, 1) := by decide +kernel
theorem d_Mo_write_38 : decode b_Mo_write 38 = .ok (.getfield 140, 3) := by decide +kernel
theorem d_Mo_write_41 : decode b_Mo_write 41 = .ok (.iload_n 1, 1) := by decide +kernel
theorem d_Mo_write_42 : decode b_Mo_write 42 = .ok (.castore, 1) := by decide +kernel
theorem d_Mo_write_43 : decode b_Mo_write 43 = .ok (.aload_n 0, 1) := by decide +kernel
theorem d_Mo_write_44 : decode b_Mo_write 44 = .ok (.dup, 1) := by decide +kernel
theorem d_Mo_write_45 : decode b_Mo_write 45 = .ok (.getfield 140, 3) := by decide +kernel
theorem d_Mo_write_48 : decode b_Mo_write 48 = .ok (.aload_n 0, 1) := by decide +kernel
theorem d_Mo_write_49 : decode b_Mo_write 49 = .ok (.getfield 127, 3) := by decide +kernel
theorem d_Mo_write_52 : decode b_Mo_write 52 = .ok (.ifCond .le 7, 3) := by decide +kernel
theorem d_Mo_write_55 : decode b_Mo_write 55 = .ok (.iconst 0, 1) := by decide +kernel
theorem d_Mo_write_56 : decode b_Mo_write 56 = .ok (.goto 4, 3) := by decide +kernel
theorem d_Mo_write_59 : decode b_Mo_write 59 = .ok (.iconst 1, 1) := by decide +kernel
theorem d_Mo_write_60 : decode b_Mo_write 60 = .ok (.iadd, 1) := by decide +kernel
theorem d_Mo_write_61 : decode b_Mo_write 61 = .ok (.putfield 140, 3) := by decide +kernel
theorem d_Mo_write_64 : decode b_Mo_write 64 = .ok (.goto 81, 3) := by decide +kernel
theorem d_Mo_write_67 : decode b_Mo_write 67 = .ok (.aload_n 0, 1) := by decide +kernel
theorem d_Mo_write_68 : decode b_Mo_write 68 = .ok (.getfield 147, 3) := by decide +kernel
theorem d_Mo_write_71 : decode b_Mo_write 71 = .ok (.ifCond .lt 74, 3) := by decide +kernel
theorem d_Mo_write_74 : decode b_Mo_write 74 = .ok (.aload_n 0, 1) := by decide +kernel
theorem d_Mo_write_75 : decode b_Mo_write 75 = .ok (.getfield 66, 3) := by decide +kernel
theorem d_Mo_write_78 : decode b_Mo_write 78 = .ok (.aload_n 0, 1) := by decide +kernel
theorem d_Mo_write_79 : decode b_Mo_write 79 = .ok (.getfield 147, 3) := by decide +kernel
theorem d_Mo_write_82 : decode b_Mo_write 82 = .ok (.iaload, 1) := by decide +kernel
theorem d_Mo_write_83 : decode b_Mo_write 83 = .ok (.sipush 300, 3) := by decide +kernel
theorem d_Mo_write_86 : decode b_Mo_write 86 = .ok (.if_icmp .ne 11, 3) := by decide +kernel
theorem d_Mo_write_89 : decode b_Mo_write 89 = .ok (.aload_n 0, 1) := by decide +kernel
theorem d_Mo_write_90 : decode b_Mo_write 90 = .ok (.iconst 2, 1) := by decide +kernel
theorem d_Mo_write_91 : decode b_Mo_write 91 = .ok (.invokevirtual 143, 3) := by decide +kernel
theorem d_Mo_write_94 : decode b_Mo_write 94 = .ok (.goto 27, 3) := by decide +kernel
theorem d_Mo_write_97 : decode b_Mo_write 97 = .ok (.aload_n 0, 1) := by decide +kernel
theorem d_Mo_write_98 : decode b_Mo_write 98 = .ok (.getfield 63, 3) := by decide +kernel
theorem d_Mo_write_101 : decode b_Mo_write 101 = .ok (.sipush 300, 3) := by decide +kernel
theorem d_Mo_write_104 : decode b_Mo_write 104 = .ok (.aload_n 0, 1) := by decide +kernel
theorem d_Mo_write_105 : decode b_Mo_write 105 = .ok (.getfield 147, 3) := by decide +kernel
theorem d_Mo_write_108 : decode b_Mo_write 108 = .ok (.imul, 1) := by decide +kernel
theorem d_Mo_write_109 : decode b_Mo_write 109 = .ok (.aload_n 0, 1) := by decide +kernel
theorem d_Mo_write_110 : decode b_Mo_write 110 = .ok (.getfield 66, 3) := by decide +kernel
theorem d_Mo_write_113 : decode b_Mo_write 113 = .ok (.aload_n 0, 1) := by decide +kernel
theorem d_Mo_write_114 : decode b_Mo_write 114 = .ok (.getfield 147, 3) := by decide +kernel
theorem d_Mo_write_117 : decode b_Mo_write 117 = .ok (.iaload, 1) := by decide +kernel
theorem d_Mo_write_118 : decode b_Mo_write 118 = .ok (.iadd, 1) := by decide +kernel
theorem d_Mo_write_119 : decode b_Mo_write 119 = .ok (.iload_n 1, 1) := by decide +kernel
theorem d_Mo_write_120 : decode b_Mo_write 120 = .ok (.castore, 1) := by decide +kernel
theorem d_Mo_write_121 : decode b_Mo_write 121 = .ok (.aload_n 0, 1) := by decide +kernel
theorem d_Mo_write_122 : decode b_Mo_write 122 = .ok (.getfield 66, 3) := by decide +kernel
theorem d_Mo_write_125 : decode b_Mo_write 125 = .ok (.aload_n 0, 1) := by decide +kernel
theorem d_Mo_write_126 : decode b_Mo_write 126 = .ok (.getfield 147, 3) := by decide +kernel
theorem d_Mo_write_129 : decode b_Mo_write 129 = .ok (.dup2, 1) := by decide +kernel
theorem d_Mo_write_130 : decode b_Mo_write 130 = .ok (.iaload, 1) := by decide +kernel
theorem d_Mo_write_131 : decode b_Mo_write 131 = .ok (.aload_n 0, 1) := by decide +kernel
theorem d_Mo_write_132 : decode b_Mo_write 132 = .ok (.getfield 127, 3) := by decide +kernel
theorem d_Mo_write_135 : decode b_Mo_write 135 = .ok (.ifCond .le 7, 3) := by decide +kernel
theorem d_Mo_write_138 : decode b_Mo_write 138 = .ok (.iconst 0, 1) := by decide +kernel
theorem d_Mo_write_139 : decode b_Mo_write 139 = .ok (.goto 4, 3) := by decide +kernel
theorem d_Mo_write_142 : decode b_Mo_write 142 = .ok (.iconst 1, 1) := by decide +kernel
theorem d_Mo_write_143 : decode b_Mo_write 143 = .ok (.iadd, 1) := by decide +kernel
theorem d_Mo_write_144 : decode b_Mo_write 144 = .ok (.iastore, 1) := by decide +kernel
theorem d_Mo_write_145 : decode b_Mo_write 145 = .ok (.return_, 1) := by decide +kernel
theorem q_Mo_write : aw_q1 y_Mo_write b_Mo_write 2 none 1 := ⟨k_1022, k_79, ⟨by decide, by decide, by decide +kernel⟩, by decide⟩
def y_Mo_isLetter : MethodName := ⟨"RescanDeskModel", "isLetter", "(I)Z"⟩
abbrev b_Mo_isLetter : ByteArray := prog_14_method_12_code
theorem d_Mo_isLetter_0 : decode b_Mo_isLetter 0 = .ok (.iload_n 0, 1) := by decide +kernel
theorem d_Mo_isLetter_1 : decode b_Mo_isLetter 1 = .ok (.bipush 97, 2) := by decide +kernel
theorem d_Mo_isLetter_3 : decode b_Mo_isLetter 3 = .ok (.if_icmp .lt 9, 3) := by decide +kernel
theorem d_Mo_isLetter_6 : decode b_Mo_isLetter 6 = .ok (.iload_n 0, 1) := by decide +kernel
theorem d_Mo_isLetter_7 : decode b_Mo_isLetter 7 = .ok (.bipush 122, 2) := by decide +kernel
theorem d_Mo_isLetter_9 : decode b_Mo_isLetter 9 = .ok (.if_icmp .le 21, 3) := by decide +kernel
theorem d_Mo_isLetter_12 : decode b_Mo_isLetter 12 = .ok (.iload_n 0, 1) := by decide +kernel
theorem d_Mo_isLetter_13 : decode b_Mo_isLetter 13 = .ok (.bipush 65, 2) := by decide +kernel
theorem d_Mo_isLetter_15 : decode b_Mo_isLetter 15 = .ok (.if_icmp .lt 9, 3) := by decide +kernel
theorem d_Mo_isLetter_18 : decode b_Mo_isLetter 18 = .ok (.iload_n 0, 1) := by decide +kernel
theorem d_Mo_isLetter_19 : decode b_Mo_isLetter 19 = .ok (.bipush 90, 2) := by decide +kernel
theorem d_Mo_isLetter_21 : decode b_Mo_isLetter 21 = .ok (.if_icmp .le 9, 3) := by decide +kernel
theorem d_Mo_isLetter_24 : decode b_Mo_isLetter 24 = .ok (.iload_n 0, 1) := by decide +kernel
theorem d_Mo_isLetter_25 : decode b_Mo_isLetter 25 = .ok (.bipush 95, 2) := by decide +kernel
theorem d_Mo_isLetter_27 : decode b_Mo_isLetter 27 = .ok (.if_icmp .ne 7, 3) := by decide +kernel
theorem d_Mo_isLetter_30 : decode b_Mo_isLetter 30 = .ok (.iconst 1, 1) := by decide +kernel
theorem d_Mo_isLetter_31 : decode b_Mo_isLetter 31 = .ok (.goto 4, 3) := by decide +kernel
theorem d_Mo_isLetter_34 : decode b_Mo_isLetter 34 = .ok (.iconst 0, 1) := by decide +kernel
theorem d_Mo_isLetter_35 : decode b_Mo_isLetter 35 = .ok (.ireturn, 1) := by decide +kernel
theorem q_Mo_isLetter : aw_q1 y_Mo_isLetter b_Mo_isLetter 1 (some .boolean) 1 := ⟨k_1025, k_79, ⟨by decide, by decide, by decide +kernel⟩, by decide⟩
def y_Mo_named : MethodName := ⟨"RescanDeskModel", "named", "()V"⟩
abbrev b_Mo_named : ByteArray := prog_14_method_20_code
theorem d_Mo_named_0 : decode b_Mo_named 0 = .ok (.iconst 1, 1) := by decide +kernel
theorem d_Mo_named_1 : decode b_Mo_named 1 = .ok (.istore_n 1, 1) := by decide +kernel
theorem d_Mo_named_2 : decode b_Mo_named 2 = .ok (.aload_n 0, 1) := by decide +kernel
theorem d_Mo_named_3 : decode b_Mo_named 3 = .ok (.iload_n 1, 1) := by decide +kernel
theorem d_Mo_named_4 : decode b_Mo_named 4 = .ok (.invokevirtual 170, 3) := by decide +kernel
theorem d_Mo_named_7 : decode b_Mo_named 7 = .ok (.invokestatic 177, 3) := by decide +kernel
theorem d_Mo_named_10 : decode b_Mo_named 10 = .ok (.ifCond .ne 14, 3) := by decide +kernel
theorem d_Mo_named_13 : decode b_Mo_named 13 = .ok (.aload_n 0, 1) := by decide +kernel
theorem d_Mo_named_14 : decode b_Mo_named 14 = .ok (.iload_n 1, 1) := by decide +kernel
theorem d_Mo_named_15 : decode b_Mo_named 15 = .ok (.invokevirtual 170, 3) := by decide +kernel
theorem d_Mo_named_18 : decode b_Mo_named 18 = .ok (.invokestatic 191, 3) := by decide +kernel
theorem d_Mo_named_21 : decode b_Mo_named 21 = .ok (.ifCond .eq 9, 3) := by decide +kernel
theorem d_Mo_named_24 : decode b_Mo_named 24 = .ok (.iinc 1 1, 3) := by decide +kernel
theorem d_Mo_named_27 : decode b_Mo_named 27 = .ok (.goto (-25), 3) := by decide +kernel
theorem d_Mo_named_30 : decode b_Mo_named 30 = .ok (.iconst 0, 1) := by decide +kernel
theorem d_Mo_named_31 : decode b_Mo_named 31 = .ok (.istore_n 2, 1) := by decide +kernel
theorem d_Mo_named_32 : decode b_Mo_named 32 = .ok (.iload_n 2, 1) := by decide +kernel
theorem d_Mo_named_33 : decode b_Mo_named 33 = .ok (.iload_n 1, 1) := by decide +kernel
theorem d_Mo_named_34 : decode b_Mo_named 34 = .ok (.if_icmp .ge 21, 3) := by decide +kernel
theorem d_Mo_named_37 : decode b_Mo_named 37 = .ok (.aload_n 0, 1) := by decide +kernel
theorem d_Mo_named_38 : decode b_Mo_named 38 = .ok (.getfield 69, 3) := by decide +kernel
theorem d_Mo_named_41 : decode b_Mo_named 41 = .ok (.iload_n 2, 1) := by decide +kernel
theorem d_Mo_named_42 : decode b_Mo_named 42 = .ok (.aload_n 0, 1) := by decide +kernel
theorem d_Mo_named_43 : decode b_Mo_named 43 = .ok (.iload_n 2, 1) := by decide +kernel
theorem d_Mo_named_44 : decode b_Mo_named 44 = .ok (.invokevirtual 170, 3) := by decide +kernel
theorem d_Mo_named_47 : decode b_Mo_named 47 = .ok (.i2c, 1) := by decide +kernel
theorem d_Mo_named_48 : decode b_Mo_named 48 = .ok (.castore, 1) := by decide +kernel
theorem d_Mo_named_49 : decode b_Mo_named 49 = .ok (.iinc 2 1, 3) := by decide +kernel
theorem d_Mo_named_52 : decode b_Mo_named 52 = .ok (.goto (-20), 3) := by decide +kernel
theorem d_Mo_named_55 : decode b_Mo_named 55 = .ok (.aload_n 0, 1) := by decide +kernel
theorem d_Mo_named_56 : decode b_Mo_named 56 = .ok (.getfield 137, 3) := by decide +kernel
theorem d_Mo_named_59 : decode b_Mo_named 59 = .ok (.ifCond .le 15, 3) := by decide +kernel
theorem d_Mo_named_62 : decode b_Mo_named 62 = .ok (.aload_n 0, 1) := by decide +kernel
theorem d_Mo_named_63 : decode b_Mo_named 63 = .ok (.getfield 56, 3) := by decide +kernel
theorem d_Mo_named_66 : decode b_Mo_named 66 = .ok (.aload_n 0, 1) := by decide +kernel
theorem d_Mo_named_67 : decode b_Mo_named 67 = .ok (.getfield 137, 3) := by decide +kernel
theorem d_Mo_named_70 : decode b_Mo_named 70 = .ok (.iconst 1, 1) := by decide +kernel
theorem d_Mo_named_71 : decode b_Mo_named 71 = .ok (.isub, 1) := by decide +kernel
theorem d_Mo_named_72 : decode b_Mo_named 72 = .ok (.iconst 1, 1) := by decide +kernel
theorem d_Mo_named_73 : decode b_Mo_named 73 = .ok (.bastore, 1) := by decide +kernel
theorem d_Mo_named_74 : decode b_Mo_named 74 = .ok (.aload_n 0, 1) := by decide +kernel
theorem d_Mo_named_75 : decode b_Mo_named 75 = .ok (.dup, 1) := by decide +kernel
theorem d_Mo_named_76 : decode b_Mo_named 76 = .ok (.getfield 150, 3) := by decide +kernel
theorem d_Mo_named_79 : decode b_Mo_named 79 = .ok (.iload_n 1, 1) := by decide +kernel
theorem d_Mo_named_80 : decode b_Mo_named 80 = .ok (.isub, 1) := by decide +kernel
theorem d_Mo_named_81 : decode b_Mo_named 81 = .ok (.putfield 150, 3) := by decide +kernel
theorem d_Mo_named_84 : decode b_Mo_named 84 = .ok (.aload_n 0, 1) := by decide +kernel
theorem d_Mo_named_85 : decode b_Mo_named 85 = .ok (.aload_n 0, 1) := by decide +kernel
theorem d_Mo_named_86 : decode b_Mo_named 86 = .ok (.getfield 69, 3) := by decide +kernel
theorem d_Mo_named_89 : decode b_Mo_named 89 = .ok (.iconst 0, 1) := by decide +kernel
theorem d_Mo_named_90 : decode b_Mo_named 90 = .ok (.iload_n 1, 1) := by decide +kernel
theorem d_Mo_named_91 : decode b_Mo_named 91 = .ok (.invokevirtual 194, 3) := by decide +kernel
theorem d_Mo_named_94 : decode b_Mo_named 94 = .ok (.istore_n 2, 1) := by decide +kernel
theorem d_Mo_named_95 : decode b_Mo_named 95 = .ok (.iload_n 2, 1) := by decide +kernel
theorem d_Mo_named_96 : decode b_Mo_named 96 = .ok (.ifCond .ge 27, 3) := by decide +kernel
theorem d_Mo_named_99 : decode b_Mo_named 99 = .ok (.iconst 0, 1) := by decide +kernel
theorem d_Mo_named_100 : decode b_Mo_named 100 = .ok (.istore_n 3, 1) := by decide +kernel
theorem d_Mo_named_101 : decode b_Mo_named 101 = .ok (.iload_n 3, 1) := by decide +kernel
theorem d_Mo_named_102 : decode b_Mo_named 102 = .ok (.iload_n 1, 1) := by decide +kernel
theorem d_Mo_named_103 : decode b_Mo_named 103 = .ok (.if_icmp .ge 19, 3) := by decide +kernel
theorem d_Mo_named_106 : decode b_Mo_named 106 = .ok (.aload_n 0, 1) := by decide +kernel
theorem d_Mo_named_107 : decode b_Mo_named 107 = .ok (.aload_n 0, 1) := by decide +kernel
theorem d_Mo_named_108 : decode b_Mo_named 108 = .ok (.getfield 69, 3) := by decide +kernel
theorem d_Mo_named_111 : decode b_Mo_named 111 = .ok (.iload_n 3, 1) := by decide +kernel
theorem d_Mo_named_112 : decode b_Mo_named 112 = .ok (.caload, 1) := by decide +kernel
theorem d_Mo_named_113 : decode b_Mo_named 113 = .ok (.invokevirtual 188, 3) := by decide +kernel
theorem d_Mo_named_116 : decode b_Mo_named 116 = .ok (.iinc 3 1, 3) := by decide +kernel
theorem d_Mo_named_119 : decode b_Mo_named 119 = .ok (.goto (-18), 3) := by decide +kernel
theorem d_Mo_named_122 : decode b_Mo_named 122 = .ok (.return_, 1) := by decide +kernel
theorem d_Mo_named_123 : decode b_Mo_named 123 = .ok (.aload_n 0, 1) := by decide +kernel
theorem d_Mo_named_124 : decode b_Mo_named 124 = .ok (.iconst 0, 1) := by decide +kernel
theorem d_Mo_named_125 : decode b_Mo_named 125 = .ok (.invokevirtual 170, 3) := by decide +kernel
theorem d_Mo_named_128 : decode b_Mo_named 128 = .ok (.bipush 40, 2) := by decide +kernel
theorem d_Mo_named_130 : decode b_Mo_named 130 = .ok (.if_icmp .ne 7, 3) := by decide +kernel
theorem d_Mo_named_133 : decode b_Mo_named 133 = .ok (.iconst 1, 1) := by decide +kernel
theorem d_Mo_named_134 : decode b_Mo_named 134 = .ok (.goto 4, 3) := by decide +kernel
theorem d_Mo_named_137 : decode b_Mo_named 137 = .ok (.iconst 0, 1) := by decide +kernel
theorem d_Mo_named_138 : decode b_Mo_named 138 = .ok (.istore_n 3, 1) := by decide +kernel
theorem d_Mo_named_139 : decode b_Mo_named 139 = .ok (.aload_n 0, 1) := by decide +kernel
theorem d_Mo_named_140 : decode b_Mo_named 140 = .ok (.dup, 1) := by decide +kernel
theorem d_Mo_named_141 : decode b_Mo_named 141 = .ok (.getfield 150, 3) := by decide +kernel
theorem d_Mo_named_144 : decode b_Mo_named 144 = .ok (.iload_n 3, 1) := by decide +kernel
theorem d_Mo_named_145 : decode b_Mo_named 145 = .ok (.ifCond .eq 7, 3) := by decide +kernel
theorem d_Mo_named_148 : decode b_Mo_named 148 = .ok (.iconst 1, 1) := by decide +kernel
theorem d_Mo_named_149 : decode b_Mo_named 149 = .ok (.goto 4, 3) := by decide +kernel
theorem d_Mo_named_152 : decode b_Mo_named 152 = .ok (.iconst 0, 1) := by decide +kernel
theorem d_Mo_named_153 : decode b_Mo_named 153 = .ok (.isub, 1) := by decide +kernel
theorem d_Mo_named_154 : decode b_Mo_named 154 = .ok (.putfield 150, 3) := by decide +kernel
theorem d_Mo_named_157 : decode b_Mo_named 157 = .ok (.iload_n 3, 1) := by decide +kernel
theorem d_Mo_named_158 : decode b_Mo_named 158 = .ok (.ifCond .eq 10, 3) := by decide +kernel
theorem d_Mo_named_161 : decode b_Mo_named 161 = .ok (.aload_n 0, 1) := by decide +kernel
theorem d_Mo_named_162 : decode b_Mo_named 162 = .ok (.getfield 137, 3) := by decide +kernel
theorem d_Mo_named_165 : decode b_Mo_named 165 = .ok (.goto 5, 3) := by decide +kernel
theorem d_Mo_named_168 : decode b_Mo_named 168 = .ok (.bipush 12, 2) := by decide +kernel
theorem d_Mo_named_170 : decode b_Mo_named 170 = .ok (.istore 4, 2) := by decide +kernel
theorem d_Mo_named_172 : decode b_Mo_named 172 = .ok (.iload 4, 2) := by decide +kernel
theorem d_Mo_named_174 : decode b_Mo_named 174 = .ok (.bipush 12, 2) := by decide +kernel
theorem d_Mo_named_176 : decode b_Mo_named 176 = .ok (.if_icmp .ne 13, 3) := by decide +kernel
theorem d_Mo_named_179 : decode b_Mo_named 179 = .ok (.iload_n 3, 1) := by decide +kernel
theorem d_Mo_named_180 : decode b_Mo_named 180 = .ok (.ifCond .eq 9, 3) := by decide +kernel
theorem d_Mo_named_183 : decode b_Mo_named 183 = .ok (.aload_n 0, 1) := by decide +kernel
theorem d_Mo_named_184 : decode b_Mo_named 184 = .ok (.iconst 2, 1) := by decide +kernel
theorem d_Mo_named_185 : decode b_Mo_named 185 = .ok (.invokevirtual 143, 3) := by decide +kernel
theorem d_Mo_named_188 : decode b_Mo_named 188 = .ok (.return_, 1) := by decide +kernel
theorem d_Mo_named_189 : decode b_Mo_named 189 = .ok (.aload_n 0, 1) := by decide +kernel
theorem d_Mo_named_190 : decode b_Mo_named 190 = .ok (.iload 4, 2) := by decide +kernel
theorem d_Mo_named_192 : decode b_Mo_named 192 = .ok (.iload_n 2, 1) := by decide +kernel
theorem d_Mo_named_193 : decode b_Mo_named 193 = .ok (.invokevirtual 198, 3) := by decide +kernel
theorem d_Mo_named_196 : decode b_Mo_named 196 = .ok (.iload_n 3, 1) := by decide +kernel
theorem d_Mo_named_197 : decode b_Mo_named 197 = .ok (.ifCond .ne 16, 3) := by decide +kernel
theorem d_Mo_named_200 : decode b_Mo_named 200 = .ok (.aload_n 0, 1) := by decide +kernel
theorem d_Mo_named_201 : decode b_Mo_named 201 = .ok (.getfield 47, 3) := by decide +kernel
theorem d_Mo_named_204 : decode b_Mo_named 204 = .ok (.bipush 12, 2) := by decide +kernel
theorem d_Mo_named_206 : decode b_Mo_named 206 = .ok (.iconst 0, 1) := by decide +kernel
theorem d_Mo_named_207 : decode b_Mo_named 207 = .ok (.iastore, 1) := by decide +kernel
theorem d_Mo_named_208 : decode b_Mo_named 208 = .ok (.aload_n 0, 1) := by decide +kernel
theorem d_Mo_named_209 : decode b_Mo_named 209 = .ok (.invokevirtual 201, 3) := by decide +kernel
theorem d_Mo_named_212 : decode b_Mo_named 212 = .ok (.return_, 1) := by decide +kernel
theorem d_Mo_named_213 : decode b_Mo_named 213 = .ok (.aload_n 0, 1) := by decide +kernel
theorem d_Mo_named_214 : decode b_Mo_named 214 = .ok (.getfield 47, 3) := by decide +kernel
theorem d_Mo_named_217 : decode b_Mo_named 217 = .ok (.iload 4, 2) := by decide +kernel
theorem d_Mo_named_219 : decode b_Mo_named 219 = .ok (.iconst 1, 1) := by decide +kernel
theorem d_Mo_named_220 : decode b_Mo_named 220 = .ok (.iastore, 1) := by decide +kernel
theorem d_Mo_named_221 : decode b_Mo_named 221 = .ok (.aload_n 0, 1) := by decide +kernel
theorem d_Mo_named_222 : decode b_Mo_named 222 = .ok (.getfield 50, 3) := by decide +kernel
theorem d_Mo_named_225 : decode b_Mo_named 225 = .ok (.bipush 11, 2) := by decide +kernel
theorem d_Mo_named_227 : decode b_Mo_named 227 = .ok (.iload 4, 2) := by decide +kernel
theorem d_Mo_named_229 : decode b_Mo_named 229 = .ok (.imul, 1) := by decide +kernel
theorem d_Mo_named_230 : decode b_Mo_named 230 = .ok (.aload_n 0, 1) := by decide +kernel
theorem d_Mo_named_231 : decode b_Mo_named 231 = .ok (.getfield 140, 3) := by decide +kernel
theorem d_Mo_named_234 : decode b_Mo_named 234 = .ok (.iastore, 1) := by decide +kernel
theorem d_Mo_named_235 : decode b_Mo_named 235 = .ok (.aload_n 0, 1) := by decide +kernel
theorem d_Mo_named_236 : decode b_Mo_named 236 = .ok (.getfield 53, 3) := by decide +kernel
theorem d_Mo_named_239 : decode b_Mo_named 239 = .ok (.iload 4, 2) := by decide +kernel
theorem d_Mo_named_241 : decode b_Mo_named 241 = .ok (.iconst 0, 1) := by decide +kernel
theorem d_Mo_named_242 : decode b_Mo_named 242 = .ok (.iastore, 1) := by decide +kernel
theorem d_Mo_named_243 : decode b_Mo_named 243 = .ok (.aload_n 0, 1) := by decide +kernel
theorem d_Mo_named_244 : decode b_Mo_named 244 = .ok (.getfield 56, 3) := by decide +kernel
theorem d_Mo_named_247 : decode b_Mo_named 247 = .ok (.iload 4, 2) := by decide +kernel
theorem d_Mo_named_249 : decode b_Mo_named 249 = .ok (.iconst 0, 1) := by decide +kernel
theorem d_Mo_named_250 : decode b_Mo_named 250 = .ok (.bastore, 1) := by decide +kernel
theorem d_Mo_named_251 : decode b_Mo_named 251 = .ok (.aload_n 0, 1) := by decide +kernel
theorem d_Mo_named_252 : decode b_Mo_named 252 = .ok (.dup, 1) := by decide +kernel
theorem d_Mo_named_253 : decode b_Mo_named 253 = .ok (.getfield 137, 3) := by decide +kernel
theorem d_Mo_named_256 : decode b_Mo_named 256 = .ok (.iconst 1, 1) := by decide +kernel
theorem d_Mo_named_257 : decode b_Mo_named 257 = .ok (.iadd, 1) := by decide +kernel
theorem d_Mo_named_258 : decode b_Mo_named 258 = .ok (.putfield 137, 3) := by decide +kernel
theorem d_Mo_named_261 : decode b_Mo_named 261 = .ok (.aload_n 0, 1) := by decide +kernel
theorem d_Mo_named_262 : decode b_Mo_named 262 = .ok (.aload_n 0, 1) := by decide +kernel
theorem d_Mo_named_263 : decode b_Mo_named 263 = .ok (.getfield 137, 3) := by decide +kernel
theorem d_Mo_named_266 : decode b_Mo_named 266 = .ok (.aload_n 0, 1) := by decide +kernel
theorem d_Mo_named_267 : decode b_Mo_named 267 = .ok (.getfield 160, 3) := by decide +kernel
theorem d_Mo_named_270 : decode b_Mo_named 270 = .ok (.if_icmp .le 10, 3) := by decide +kernel
theorem d_Mo_named_273 : decode b_Mo_named 273 = .ok (.aload_n 0, 1) := by decide +kernel
theorem d_Mo_named_274 : decode b_Mo_named 274 = .ok (.getfield 137, 3) := by decide +kernel
theorem d_Mo_named_277 : decode b_Mo_named 277 = .ok (.goto 7, 3) := by decide +kernel
theorem d_Mo_named_280 : decode b_Mo_named 280 = .ok (.aload_n 0, 1) := by decide +kernel
theorem d_Mo_named_281 : decode b_Mo_named 281 = .ok (.getfield 160, 3) := by decide +kernel
theorem d_Mo_named_284 : decode b_Mo_named 284 = .ok (.putfield 160, 3) := by decide +kernel
theorem d_Mo_named_287 : decode b_Mo_named 287 = .ok (.return_, 1) := by decide +kernel
theorem q_Mo_named : aw_q1 y_Mo_named b_Mo_named 5 none 0 := ⟨k_1029, k_79, ⟨by decide, by decide, by decide +kernel⟩, by decide⟩
def y_Mo_isDigit : MethodName := ⟨"RescanDeskModel", "isDigit", "(I)Z"⟩
abbrev b_Mo_isDigit : ByteArray := prog_14_method_13_code
theorem d_Mo_isDigit_0 : decode b_Mo_isDigit 0 = .ok (.iload_n 0, 1) := by decide +kernel
theorem d_Mo_isDigit_1 : decode b_Mo_isDigit 1 = .ok (.bipush 48, 2) := by decide +kernel
theorem d_Mo_isDigit_3 : decode b_Mo_isDigit 3 = .ok (.if_icmp .lt 13, 3) := by decide +kernel
theorem d_Mo_isDigit_6 : decode b_Mo_isDigit 6 = .ok (.iload_n 0, 1) := by decide +kernel
theorem d_Mo_isDigit_7 : decode b_Mo_isDigit 7 = .ok (.bipush 57, 2) := by decide +kernel
theorem d_Mo_isDigit_9 : decode b_Mo_isDigit 9 = .ok (.if_icmp .gt 7, 3) := by decide +kernel
theorem d_Mo_isDigit_12 : decode b_Mo_isDigit 12 = .ok (.iconst 1, 1) := by decide +kernel
theorem d_Mo_isDigit_13 : decode b_Mo_isDigit 13 = .ok (.goto 4, 3) := by decide +kernel
theorem d_Mo_isDigit_16 : decode b_Mo_isDigit 16 = .ok (.iconst 0, 1) := by decide +kernel
theorem d_Mo_isDigit_17 : decode b_Mo_isDigit 17 = .ok (.ireturn, 1) := by decide +kernel
theorem q_Mo_isDigit : aw_q1 y_Mo_isDigit b_Mo_isDigit 1 (some .boolean) 1 := ⟨k_1032, k_79, ⟨by decide, by decide, by decide +kernel⟩, by decide⟩
def y_Mo_find : MethodName := ⟨"RescanDeskModel", "find", "([CII)I"⟩
abbrev b_Mo_find : ByteArray := prog_14_method_16_code
theorem d_Mo_find_0 : decode b_Mo_find 0 = .ok (.iconst (-1), 1) := by decide +kernel
theorem d_Mo_find_1 : decode b_Mo_find 1 = .ok (.istore 4, 2) := by decide +kernel
theorem d_Mo_find_3 : decode b_Mo_find 3 = .ok (.iconst 0, 1) := by decide +kernel
theorem d_Mo_find_4 : decode b_Mo_find 4 = .ok (.istore 5, 2) := by decide +kernel
theorem d_Mo_find_6 : decode b_Mo_find 6 = .ok (.iload 5, 2) := by decide +kernel
theorem d_Mo_find_8 : decode b_Mo_find 8 = .ok (.aload_n 0, 1) := by decide +kernel
theorem d_Mo_find_9 : decode b_Mo_find 9 = .ok (.getfield 118, 3) := by decide +kernel
theorem d_Mo_find_12 : decode b_Mo_find 12 = .ok (.if_icmp .ge 30, 3) := by decide +kernel
theorem d_Mo_find_15 : decode b_Mo_find 15 = .ok (.aload_n 0, 1) := by decide +kernel
theorem d_Mo_find_16 : decode b_Mo_find 16 = .ok (.iload 5, 2) := by decide +kernel
theorem d_Mo_find_18 : decode b_Mo_find 18 = .ok (.aload_n 1, 1) := by decide +kernel
theorem d_Mo_find_19 : decode b_Mo_find 19 = .ok (.iload_n 2, 1) := by decide +kernel
theorem d_Mo_find_20 : decode b_Mo_find 20 = .ok (.iload_n 3, 1) := by decide +kernel
theorem d_Mo_find_21 : decode b_Mo_find 21 = .ok (.invokevirtual 153, 3) := by decide +kernel
theorem d_Mo_find_24 : decode b_Mo_find 24 = .ok (.ifCond .eq 8, 3) := by decide +kernel
theorem d_Mo_find_27 : decode b_Mo_find 27 = .ok (.iload 5, 2) := by decide +kernel
theorem d_Mo_find_29 : decode b_Mo_find 29 = .ok (.goto 5, 3) := by decide +kernel
theorem d_Mo_find_32 : decode b_Mo_find 32 = .ok (.iload 4, 2) := by decide +kernel
theorem d_Mo_find_34 : decode b_Mo_find 34 = .ok (.istore 4, 2) := by decide +kernel
theorem d_Mo_find_36 : decode b_Mo_find 36 = .ok (.iinc 5 1, 3) := by decide +kernel
theorem d_Mo_find_39 : decode b_Mo_find 39 = .ok (.goto (-33), 3) := by decide +kernel
theorem d_Mo_find_42 : decode b_Mo_find 42 = .ok (.iload 4, 2) := by decide +kernel
theorem d_Mo_find_44 : decode b_Mo_find 44 = .ok (.ireturn, 1) := by decide +kernel
theorem q_Mo_find : aw_q1 y_Mo_find b_Mo_find 6 (some .int) 3 := ⟨k_1036, k_79, ⟨by decide, by decide, by decide +kernel⟩, by decide⟩
def y_Mo_isNamed : MethodName := ⟨"RescanDeskModel", "isNamed", "(I[CII)Z"⟩
abbrev b_Mo_isNamed : ByteArray := prog_14_method_15_code
theorem d_Mo_isNamed_0 : decode b_Mo_isNamed 0 = .ok (.aload_n 0, 1) := by decide +kernel
theorem d_Mo_isNamed_1 : decode b_Mo_isNamed 1 = .ok (.getfield 19, 3) := by decide +kernel
theorem d_Mo_isNamed_4 : decode b_Mo_isNamed 4 = .ok (.iload_n 1, 1) := by decide +kernel
theorem d_Mo_isNamed_5 : decode b_Mo_isNamed 5 = .ok (.iaload, 1) := by decide +kernel
theorem d_Mo_isNamed_6 : decode b_Mo_isNamed 6 = .ok (.iload 4, 2) := by decide +kernel
theorem d_Mo_isNamed_8 : decode b_Mo_isNamed 8 = .ok (.if_icmp .ne 7, 3) := by decide +kernel
theorem d_Mo_isNamed_11 : decode b_Mo_isNamed 11 = .ok (.iconst 1, 1) := by decide +kernel
theorem d_Mo_isNamed_12 : decode b_Mo_isNamed 12 = .ok (.goto 4, 3) := by decide +kernel
theorem d_Mo_isNamed_15 : decode b_Mo_isNamed 15 = .ok (.iconst 0, 1) := by decide +kernel
theorem d_Mo_isNamed_16 : decode b_Mo_isNamed 16 = .ok (.istore 5, 2) := by decide +kernel
theorem d_Mo_isNamed_18 : decode b_Mo_isNamed 18 = .ok (.iconst 0, 1) := by decide +kernel
theorem d_Mo_isNamed_19 : decode b_Mo_isNamed 19 = .ok (.istore 6, 2) := by decide +kernel
theorem d_Mo_isNamed_21 : decode b_Mo_isNamed 21 = .ok (.iload 6, 2) := by decide +kernel
theorem d_Mo_isNamed_23 : decode b_Mo_isNamed 23 = .ok (.iload 4, 2) := by decide +kernel
theorem d_Mo_isNamed_25 : decode b_Mo_isNamed 25 = .ok (.if_icmp .ge 42, 3) := by decide +kernel
theorem d_Mo_isNamed_28 : decode b_Mo_isNamed 28 = .ok (.iload 5, 2) := by decide +kernel
theorem d_Mo_isNamed_30 : decode b_Mo_isNamed 30 = .ok (.ifCond .eq 37, 3) := by decide +kernel
theorem d_Mo_isNamed_33 : decode b_Mo_isNamed 33 = .ok (.aload_n 0, 1) := by decide +kernel
theorem d_Mo_isNamed_34 : decode b_Mo_isNamed 34 = .ok (.getfield 16, 3) := by decide +kernel
theorem d_Mo_isNamed_37 : decode b_Mo_isNamed 37 = .ok (.bipush 12, 2) := by decide +kernel
theorem d_Mo_isNamed_39 : decode b_Mo_isNamed 39 = .ok (.iload_n 1, 1) := by decide +kernel
theorem d_Mo_isNamed_40 : decode b_Mo_isNamed 40 = .ok (.imul, 1) := by decide +kernel
theorem d_Mo_isNamed_41 : decode b_Mo_isNamed 41 = .ok (.iload 6, 2) := by decide +kernel
theorem d_Mo_isNamed_43 : decode b_Mo_isNamed 43 = .ok (.iadd, 1) := by decide +kernel
theorem d_Mo_isNamed_44 : decode b_Mo_isNamed 44 = .ok (.caload, 1) := by decide +kernel
theorem d_Mo_isNamed_45 : decode b_Mo_isNamed 45 = .ok (.aload_n 2, 1) := by decide +kernel
theorem d_Mo_isNamed_46 : decode b_Mo_isNamed 46 = .ok (.iload_n 3, 1) := by decide +kernel
theorem d_Mo_isNamed_47 : decode b_Mo_isNamed 47 = .ok (.iload 6, 2) := by decide +kernel
theorem d_Mo_isNamed_49 : decode b_Mo_isNamed 49 = .ok (.iadd, 1) := by decide +kernel
theorem d_Mo_isNamed_50 : decode b_Mo_isNamed 50 = .ok (.caload, 1) := by decide +kernel
theorem d_Mo_isNamed_51 : decode b_Mo_isNamed 51 = .ok (.if_icmp .ne 7, 3) := by decide +kernel
theorem d_Mo_isNamed_54 : decode b_Mo_isNamed 54 = .ok (.iconst 1, 1) := by decide +kernel
theorem d_Mo_isNamed_55 : decode b_Mo_isNamed 55 = .ok (.goto 4, 3) := by decide +kernel
theorem d_Mo_isNamed_58 : decode b_Mo_isNamed 58 = .ok (.iconst 0, 1) := by decide +kernel
theorem d_Mo_isNamed_59 : decode b_Mo_isNamed 59 = .ok (.istore 5, 2) := by decide +kernel
theorem d_Mo_isNamed_61 : decode b_Mo_isNamed 61 = .ok (.iinc 6 1, 3) := by decide +kernel
theorem d_Mo_isNamed_64 : decode b_Mo_isNamed 64 = .ok (.goto (-43), 3) := by decide +kernel
theorem d_Mo_isNamed_67 : decode b_Mo_isNamed 67 = .ok (.iload 5, 2) := by decide +kernel
theorem d_Mo_isNamed_69 : decode b_Mo_isNamed 69 = .ok (.ireturn, 1) := by decide +kernel
theorem q_Mo_isNamed : aw_q1 y_Mo_isNamed b_Mo_isNamed 7 (some .boolean) 4 := ⟨k_1040, k_79, ⟨by decide, by decide, by decide +kernel⟩, by decide⟩
def y_Mo_begin : MethodName := ⟨"RescanDeskModel", "begin", "(II)V"⟩
abbrev b_Mo_begin : ByteArray := prog_14_method_21_code
theorem d_Mo_begin_0 : decode b_Mo_begin 0 = .ok (.iconst 0, 1) := by decide +kernel
theorem d_Mo_begin_1 : decode b_Mo_begin 1 = .ok (.istore_n 3, 1) := by decide +kernel
theorem d_Mo_begin_2 : decode b_Mo_begin 2 = .ok (.iload_n 3, 1) := by decide +kernel
theorem d_Mo_begin_3 : decode b_Mo_begin 3 = .ok (.bipush 12, 2) := by decide +kernel
theorem d_Mo_begin_5 : decode b_Mo_begin 5 = .ok (.if_icmp .ge 31, 3) := by decide +kernel
theorem d_Mo_begin_8 : decode b_Mo_begin 8 = .ok (.aload_n 0, 1) := by decide +kernel
theorem d_Mo_begin_9 : decode b_Mo_begin 9 = .ok (.getfield 32, 3) := by decide +kernel
theorem d_Mo_begin_12 : decode b_Mo_begin 12 = .ok (.bipush 12, 2) := by decide +kernel
theorem d_Mo_begin_14 : decode b_Mo_begin 14 = .ok (.iload_n 1, 1) := by decide +kernel
theorem d_Mo_begin_15 : decode b_Mo_begin 15 = .ok (.imul, 1) := by decide +kernel
theorem d_Mo_begin_16 : decode b_Mo_begin 16 = .ok (.iload_n 3, 1) := by decide +kernel
theorem d_Mo_begin_17 : decode b_Mo_begin 17 = .ok (.iadd, 1) := by decide +kernel
theorem d_Mo_begin_18 : decode b_Mo_begin 18 = .ok (.aload_n 0, 1) := by decide +kernel
theorem d_Mo_begin_19 : decode b_Mo_begin 19 = .ok (.getfield 16, 3) := by decide +kernel
theorem d_Mo_begin_22 : decode b_Mo_begin 22 = .ok (.bipush 12, 2) := by decide +kernel
theorem d_Mo_begin_24 : decode b_Mo_begin 24 = .ok (.iload_n 2, 1) := by decide +kernel
theorem d_Mo_begin_25 : decode b_Mo_begin 25 = .ok (.imul, 1) := by decide +kernel
theorem d_Mo_begin_26 : decode b_Mo_begin 26 = .ok (.iload_n 3, 1) := by decide +kernel
theorem d_Mo_begin_27 : decode b_Mo_begin 27 = .ok (.iadd, 1) := by decide +kernel
theorem d_Mo_begin_28 : decode b_Mo_begin 28 = .ok (.caload, 1) := by decide +kernel
theorem d_Mo_begin_29 : decode b_Mo_begin 29 = .ok (.castore, 1) := by decide +kernel
theorem d_Mo_begin_30 : decode b_Mo_begin 30 = .ok (.iinc 3 1, 3) := by decide +kernel
theorem d_Mo_begin_33 : decode b_Mo_begin 33 = .ok (.goto (-31), 3) := by decide +kernel
theorem d_Mo_begin_36 : decode b_Mo_begin 36 = .ok (.aload_n 0, 1) := by decide +kernel
theorem d_Mo_begin_37 : decode b_Mo_begin 37 = .ok (.getfield 35, 3) := by decide +kernel
theorem d_Mo_begin_40 : decode b_Mo_begin 40 = .ok (.iload_n 1, 1) := by decide +kernel
theorem d_Mo_begin_41 : decode b_Mo_begin 41 = .ok (.aload_n 0, 1) := by decide +kernel
theorem d_Mo_begin_42 : decode b_Mo_begin 42 = .ok (.getfield 19, 3) := by decide +kernel
theorem d_Mo_begin_45 : decode b_Mo_begin 45 = .ok (.iload_n 2, 1) := by decide +kernel
theorem d_Mo_begin_46 : decode b_Mo_begin 46 = .ok (.iaload, 1) := by decide +kernel
theorem d_Mo_begin_47 : decode b_Mo_begin 47 = .ok (.iastore, 1) := by decide +kernel
theorem d_Mo_begin_48 : decode b_Mo_begin 48 = .ok (.aload_n 0, 1) := by decide +kernel
theorem d_Mo_begin_49 : decode b_Mo_begin 49 = .ok (.getfield 38, 3) := by decide +kernel
theorem d_Mo_begin_52 : decode b_Mo_begin 52 = .ok (.iload_n 1, 1) := by decide +kernel
theorem d_Mo_begin_53 : decode b_Mo_begin 53 = .ok (.aload_n 0, 1) := by decide +kernel
theorem d_Mo_begin_54 : decode b_Mo_begin 54 = .ok (.getfield 23, 3) := by decide +kernel
theorem d_Mo_begin_57 : decode b_Mo_begin 57 = .ok (.iload_n 2, 1) := by decide +kernel
theorem d_Mo_begin_58 : decode b_Mo_begin 58 = .ok (.iaload, 1) := by decide +kernel
theorem d_Mo_begin_59 : decode b_Mo_begin 59 = .ok (.iastore, 1) := by decide +kernel
theorem d_Mo_begin_60 : decode b_Mo_begin 60 = .ok (.iconst 0, 1) := by decide +kernel
theorem d_Mo_begin_61 : decode b_Mo_begin 61 = .ok (.istore_n 3, 1) := by decide +kernel
theorem d_Mo_begin_62 : decode b_Mo_begin 62 = .ok (.iload_n 3, 1) := by decide +kernel
theorem d_Mo_begin_63 : decode b_Mo_begin 63 = .ok (.aload_n 0, 1) := by decide +kernel
theorem d_Mo_begin_64 : decode b_Mo_begin 64 = .ok (.getfield 29, 3) := by decide +kernel
theorem d_Mo_begin_67 : decode b_Mo_begin 67 = .ok (.iload_n 2, 1) := by decide +kernel
theorem d_Mo_begin_68 : decode b_Mo_begin 68 = .ok (.iaload, 1) := by decide +kernel
theorem d_Mo_begin_69 : decode b_Mo_begin 69 = .ok (.if_icmp .ge 31, 3) := by decide +kernel
theorem d_Mo_begin_72 : decode b_Mo_begin 72 = .ok (.aload_n 0, 1) := by decide +kernel
theorem d_Mo_begin_73 : decode b_Mo_begin 73 = .ok (.getfield 41, 3) := by decide +kernel
theorem d_Mo_begin_76 : decode b_Mo_begin 76 = .ok (.bipush 100, 2) := by decide +kernel
theorem d_Mo_begin_78 : decode b_Mo_begin 78 = .ok (.iload_n 1, 1) := by decide +kernel
theorem d_Mo_begin_79 : decode b_Mo_begin 79 = .ok (.imul, 1) := by decide +kernel
theorem d_Mo_begin_80 : decode b_Mo_begin 80 = .ok (.iload_n 3, 1) := by decide +kernel
theorem d_Mo_begin_81 : decode b_Mo_begin 81 = .ok (.iadd, 1) := by decide +kernel
theorem d_Mo_begin_82 : decode b_Mo_begin 82 = .ok (.aload_n 0, 1) := by decide +kernel
theorem d_Mo_begin_83 : decode b_Mo_begin 83 = .ok (.getfield 26, 3) := by decide +kernel
theorem d_Mo_begin_86 : decode b_Mo_begin 86 = .ok (.bipush 100, 2) := by decide +kernel
theorem d_Mo_begin_88 : decode b_Mo_begin 88 = .ok (.iload_n 2, 1) := by decide +kernel
theorem d_Mo_begin_89 : decode b_Mo_begin 89 = .ok (.imul, 1) := by decide +kernel
theorem d_Mo_begin_90 : decode b_Mo_begin 90 = .ok (.iload_n 3, 1) := by decide +kernel
theorem d_Mo_begin_91 : decode b_Mo_begin 91 = .ok (.iadd, 1) := by decide +kernel
theorem d_Mo_begin_92 : decode b_Mo_begin 92 = .ok (.caload, 1) := by decide +kernel
theorem d_Mo_begin_93 : decode b_Mo_begin 93 = .ok (.castore, 1) := by decide +kernel
theorem d_Mo_begin_94 : decode b_Mo_begin 94 = .ok (.iinc 3 1, 3) := by decide +kernel
theorem d_Mo_begin_97 : decode b_Mo_begin 97 = .ok (.goto (-35), 3) := by decide +kernel
theorem d_Mo_begin_100 : decode b_Mo_begin 100 = .ok (.aload_n 0, 1) := by decide +kernel
theorem d_Mo_begin_101 : decode b_Mo_begin 101 = .ok (.getfield 44, 3) := by decide +kernel
theorem d_Mo_begin_104 : decode b_Mo_begin 104 = .ok (.iload_n 1, 1) := by decide +kernel
theorem d_Mo_begin_105 : decode b_Mo_begin 105 = .ok (.aload_n 0, 1) := by decide +kernel
theorem d_Mo_begin_106 : decode b_Mo_begin 106 = .ok (.getfield 29, 3) := by decide +kernel
theorem d_Mo_begin_109 : decode b_Mo_begin 109 = .ok (.iload_n 2, 1) := by decide +kernel
theorem d_Mo_begin_110 : decode b_Mo_begin 110 = .ok (.iaload, 1) := by decide +kernel
theorem d_Mo_begin_111 : decode b_Mo_begin 111 = .ok (.iastore, 1) := by decide +kernel
theorem d_Mo_begin_112 : decode b_Mo_begin 112 = .ok (.return_, 1) := by decide +kernel
theorem q_Mo_begin : aw_q1 y_Mo_begin b_Mo_begin 4 none 2 := ⟨k_1044, k_79, ⟨by decide, by decide, by decide +kernel⟩, by decide⟩
def y_Mo_expand : MethodName := ⟨"RescanDeskModel", "expand", "()V"⟩
abbrev b_Mo_expand : ByteArray := prog_14_method_33_code
theorem d_Mo_expand_0 : decode b_Mo_expand 0 = .ok (.aload_n 0, 1) := by decide +kernel
theorem d_Mo_expand_1 : decode b_Mo_expand 1 = .ok (.iconst 0, 1) := by decide +kernel
theorem d_Mo_expand_2 : decode b_Mo_expand 2 = .ok (.putfield 217, 3) := by decide +kernel
theorem d_Mo_expand_5 : decode b_Mo_expand 5 = .ok (.aload_n 0, 1) := by decide +kernel
theorem d_Mo_expand_6 : decode b_Mo_expand 6 = .ok (.getfield 38, 3) := by decide +kernel
theorem d_Mo_expand_9 : decode b_Mo_expand 9 = .ok (.bipush 12, 2) := by decide +kernel
theorem d_Mo_expand_11 : decode b_Mo_expand 11 = .ok (.iaload, 1) := by decide +kernel
theorem d_Mo_expand_12 : decode b_Mo_expand 12 = .ok (.ifCond .ne 10, 3) := by decide +kernel
theorem d_Mo_expand_15 : decode b_Mo_expand 15 = .ok (.aload_n 0, 1) := by decide +kernel
theorem d_Mo_expand_16 : decode b_Mo_expand 16 = .ok (.invokevirtual 226, 3) := by decide +kernel
theorem d_Mo_expand_19 : decode b_Mo_expand 19 = .ok (.goto 14, 3) := by decide +kernel
theorem d_Mo_expand_22 : decode b_Mo_expand 22 = .ok (.aload_n 0, 1) := by decide +kernel
theorem d_Mo_expand_23 : decode b_Mo_expand 23 = .ok (.aload_n 0, 1) := by decide +kernel
theorem d_Mo_expand_24 : decode b_Mo_expand 24 = .ok (.getfield 38, 3) := by decide +kernel
theorem d_Mo_expand_27 : decode b_Mo_expand 27 = .ok (.bipush 12, 2) := by decide +kernel
theorem d_Mo_expand_29 : decode b_Mo_expand 29 = .ok (.iaload, 1) := by decide +kernel
theorem d_Mo_expand_30 : decode b_Mo_expand 30 = .ok (.invokevirtual 229, 3) := by decide +kernel
theorem d_Mo_expand_33 : decode b_Mo_expand 33 = .ok (.aload_n 0, 1) := by decide +kernel
theorem d_Mo_expand_34 : decode b_Mo_expand 34 = .ok (.getfield 127, 3) := by decide +kernel
theorem d_Mo_expand_37 : decode b_Mo_expand 37 = .ok (.ifCond .le 4, 3) := by decide +kernel
theorem d_Mo_expand_40 : decode b_Mo_expand 40 = .ok (.return_, 1) := by decide +kernel
theorem d_Mo_expand_41 : decode b_Mo_expand 41 = .ok (.aload_n 0, 1) := by decide +kernel
theorem d_Mo_expand_42 : decode b_Mo_expand 42 = .ok (.getfield 217, 3) := by decide +kernel
theorem d_Mo_expand_45 : decode b_Mo_expand 45 = .ok (.iconst 1, 1) := by decide +kernel
theorem d_Mo_expand_46 : decode b_Mo_expand 46 = .ok (.isub, 1) := by decide +kernel
theorem d_Mo_expand_47 : decode b_Mo_expand 47 = .ok (.istore_n 1, 1) := by decide +kernel
theorem d_Mo_expand_48 : decode b_Mo_expand 48 = .ok (.iload_n 1, 1) := by decide +kernel
theorem d_Mo_expand_49 : decode b_Mo_expand 49 = .ok (.ifCond .lt 34, 3) := by decide +kernel
theorem d_Mo_expand_52 : decode b_Mo_expand 52 = .ok (.aload_n 0, 1) := by decide +kernel
theorem d_Mo_expand_53 : decode b_Mo_expand 53 = .ok (.getfield 13, 3) := by decide +kernel
theorem d_Mo_expand_56 : decode b_Mo_expand 56 = .ok (.aload_n 0, 1) := by decide +kernel
theorem d_Mo_expand_57 : decode b_Mo_expand 57 = .ok (.getfield 150, 3) := by decide +kernel
theorem d_Mo_expand_60 : decode b_Mo_expand 60 = .ok (.aload_n 0, 1) := by decide +kernel
theorem d_Mo_expand_61 : decode b_Mo_expand 61 = .ok (.getfield 69, 3) := by decide +kernel
theorem d_Mo_expand_64 : decode b_Mo_expand 64 = .ok (.iload_n 1, 1) := by decide +kernel
theorem d_Mo_expand_65 : decode b_Mo_expand 65 = .ok (.caload, 1) := by decide +kernel
theorem d_Mo_expand_66 : decode b_Mo_expand 66 = .ok (.castore, 1) := by decide +kernel
theorem d_Mo_expand_67 : decode b_Mo_expand 67 = .ok (.aload_n 0, 1) := by decide +kernel
theorem d_Mo_expand_68 : decode b_Mo_expand 68 = .ok (.dup, 1) := by decide +kernel
theorem d_Mo_expand_69 : decode b_Mo_expand 69 = .ok (.getfield 150, 3) := by decide +kernel
theorem d_Mo_expand_72 : decode b_Mo_expand 72 = .ok (.iconst 1, 1) := by decide +kernel
theorem d_Mo_expand_73 : decode b_Mo_expand 73 = .ok (.iadd, 1) := by decide +kernel
theorem d_Mo_expand_74 : decode b_Mo_expand 74 = .ok (.putfield 150, 3) := by decide +kernel
theorem d_Mo_expand_77 : decode b_Mo_expand 77 = .ok (.iinc 1 (-1), 3) := by decide +kernel
theorem d_Mo_expand_80 : decode b_Mo_expand 80 = .ok (.goto (-32), 3) := by decide +kernel
theorem d_Mo_expand_83 : decode b_Mo_expand 83 = .ok (.return_, 1) := by decide +kernel
theorem q_Mo_expand : aw_q1 y_Mo_expand b_Mo_expand 2 none 0 := ⟨k_1048, k_79, ⟨by decide, by decide, by decide +kernel⟩, by decide⟩
def y_Mo_putBody : MethodName := ⟨"RescanDeskModel", "putBody", "()V"⟩
abbrev b_Mo_putBody : ByteArray := prog_14_method_34_code
theorem d_Mo_putBody_0 : decode b_Mo_putBody 0 = .ok (.aload_n 0, 1) := by decide +kernel
theorem d_Mo_putBody_1 : decode b_Mo_putBody 1 = .ok (.getfield 44, 3) := by decide +kernel
theorem d_Mo_putBody_4 : decode b_Mo_putBody 4 = .ok (.bipush 12, 2) := by decide +kernel
theorem d_Mo_putBody_6 : decode b_Mo_putBody 6 = .ok (.iaload, 1) := by decide +kernel
theorem d_Mo_putBody_7 : decode b_Mo_putBody 7 = .ok (.istore_n 1, 1) := by decide +kernel
theorem d_Mo_putBody_8 : decode b_Mo_putBody 8 = .ok (.iconst 0, 1) := by decide +kernel
theorem d_Mo_putBody_9 : decode b_Mo_putBody 9 = .ok (.istore_n 2, 1) := by decide +kernel
theorem d_Mo_putBody_10 : decode b_Mo_putBody 10 = .ok (.iload_n 2, 1) := by decide +kernel
theorem d_Mo_putBody_11 : decode b_Mo_putBody 11 = .ok (.iload_n 1, 1) := by decide +kernel
theorem d_Mo_putBody_12 : decode b_Mo_putBody 12 = .ok (.if_icmp .ge 223, 3) := by decide +kernel
theorem d_Mo_putBody_15 : decode b_Mo_putBody 15 = .ok (.aload_n 0, 1) := by decide +kernel
theorem d_Mo_putBody_16 : decode b_Mo_putBody 16 = .ok (.getfield 127, 3) := by decide +kernel
theorem d_Mo_putBody_19 : decode b_Mo_putBody 19 = .ok (.ifCond .ne 216, 3) := by decide +kernel
theorem d_Mo_putBody_22 : decode b_Mo_putBody 22 = .ok (.aload_n 0, 1) := by decide +kernel
theorem d_Mo_putBody_23 : decode b_Mo_putBody 23 = .ok (.getfield 41, 3) := by decide +kernel
theorem d_Mo_putBody_26 : decode b_Mo_putBody 26 = .ok (.sipush 1200, 3) := by decide +kernel
theorem d_Mo_putBody_29 : decode b_Mo_putBody 29 = .ok (.iload_n 2, 1) := by decide +kernel
theorem d_Mo_putBody_30 : decode b_Mo_putBody 30 = .ok (.iadd, 1) := by decide +kernel
theorem d_Mo_putBody_31 : decode b_Mo_putBody 31 = .ok (.caload, 1) := by decide +kernel
theorem d_Mo_putBody_32 : decode b_Mo_putBody 32 = .ok (.istore_n 3, 1) := by decide +kernel
theorem d_Mo_putBody_33 : decode b_Mo_putBody 33 = .ok (.iload_n 3, 1) := by decide +kernel
theorem d_Mo_putBody_34 : decode b_Mo_putBody 34 = .ok (.bipush 36, 2) := by decide +kernel
theorem d_Mo_putBody_36 : decode b_Mo_putBody 36 = .ok (.if_icmp .ne 23, 3) := by decide +kernel
theorem d_Mo_putBody_39 : decode b_Mo_putBody 39 = .ok (.iload_n 2, 1) := by decide +kernel
theorem d_Mo_putBody_40 : decode b_Mo_putBody 40 = .ok (.iconst 1, 1) := by decide +kernel
theorem d_Mo_putBody_41 : decode b_Mo_putBody 41 = .ok (.iadd, 1) := by decide +kernel
theorem d_Mo_putBody_42 : decode b_Mo_putBody 42 = .ok (.iload_n 1, 1) := by decide +kernel
theorem d_Mo_putBody_43 : decode b_Mo_putBody 43 = .ok (.if_icmp .ge 16, 3) := by decide +kernel
theorem d_Mo_putBody_46 : decode b_Mo_putBody 46 = .ok (.aload_n 0, 1) := by decide +kernel
theorem d_Mo_putBody_47 : decode b_Mo_putBody 47 = .ok (.getfield 41, 3) := by decide +kernel
theorem d_Mo_putBody_50 : decode b_Mo_putBody 50 = .ok (.sipush 1201, 3) := by decide +kernel
theorem d_Mo_putBody_53 : decode b_Mo_putBody 53 = .ok (.iload_n 2, 1) := by decide +kernel
theorem d_Mo_putBody_54 : decode b_Mo_putBody 54 = .ok (.iadd, 1) := by decide +kernel
theorem d_Mo_putBody_55 : decode b_Mo_putBody 55 = .ok (.caload, 1) := by decide +kernel
theorem d_Mo_putBody_56 : decode b_Mo_putBody 56 = .ok (.goto 4, 3) := by decide +kernel
theorem d_Mo_putBody_59 : decode b_Mo_putBody 59 = .ok (.iconst (-1), 1) := by decide +kernel
theorem d_Mo_putBody_60 : decode b_Mo_putBody 60 = .ok (.istore 4, 2) := by decide +kernel
theorem d_Mo_putBody_62 : decode b_Mo_putBody 62 = .ok (.iload 4, 2) := by decide +kernel
theorem d_Mo_putBody_64 : decode b_Mo_putBody 64 = .ok (.invokestatic 191, 3) := by decide +kernel
theorem d_Mo_putBody_67 : decode b_Mo_putBody 67 = .ok (.ifCond .ne 24, 3) := by decide +kernel
theorem d_Mo_putBody_70 : decode b_Mo_putBody 70 = .ok (.iload 4, 2) := by decide +kernel
theorem d_Mo_putBody_72 : decode b_Mo_putBody 72 = .ok (.bipush 35, 2) := by decide +kernel
theorem d_Mo_putBody_74 : decode b_Mo_putBody 74 = .ok (.if_icmp .eq 17, 3) := by decide +kernel
theorem d_Mo_putBody_77 : decode b_Mo_putBody 77 = .ok (.iload 4, 2) := by decide +kernel
theorem d_Mo_putBody_79 : decode b_Mo_putBody 79 = .ok (.bipush 42, 2) := by decide +kernel
theorem d_Mo_putBody_81 : decode b_Mo_putBody 81 = .ok (.if_icmp .eq 10, 3) := by decide +kernel
theorem d_Mo_putBody_84 : decode b_Mo_putBody 84 = .ok (.iload 4, 2) := by decide +kernel
theorem d_Mo_putBody_86 : decode b_Mo_putBody 86 = .ok (.bipush 64, 2) := by decide +kernel
theorem d_Mo_putBody_88 : decode b_Mo_putBody 88 = .ok (.if_icmp .ne 7, 3) := by decide +kernel
theorem d_Mo_putBody_91 : decode b_Mo_putBody 91 = .ok (.iconst 1, 1) := by decide +kernel
theorem d_Mo_putBody_92 : decode b_Mo_putBody 92 = .ok (.goto 4, 3) := by decide +kernel
theorem d_Mo_putBody_95 : decode b_Mo_putBody 95 = .ok (.iconst 0, 1) := by decide +kernel
theorem d_Mo_putBody_96 : decode b_Mo_putBody 96 = .ok (.istore 5, 2) := by decide +kernel
theorem d_Mo_putBody_98 : decode b_Mo_putBody 98 = .ok (.iload 5, 2) := by decide +kernel
theorem d_Mo_putBody_100 : decode b_Mo_putBody 100 = .ok (.ifCond .ne 11, 3) := by decide +kernel
theorem d_Mo_putBody_103 : decode b_Mo_putBody 103 = .ok (.aload_n 0, 1) := by decide +kernel
theorem d_Mo_putBody_104 : decode b_Mo_putBody 104 = .ok (.iload_n 3, 1) := by decide +kernel
theorem d_Mo_putBody_105 : decode b_Mo_putBody 105 = .ok (.invokevirtual 220, 3) := by decide +kernel
theorem d_Mo_putBody_108 : decode b_Mo_putBody 108 = .ok (.goto 121, 3) := by decide +kernel
theorem d_Mo_putBody_111 : decode b_Mo_putBody 111 = .ok (.iinc 2 1, 3) := by decide +kernel
theorem d_Mo_putBody_114 : decode b_Mo_putBody 114 = .ok (.iload 4, 2) := by decide +kernel
theorem d_Mo_putBody_116 : decode b_Mo_putBody 116 = .ok (.bipush 35, 2) := by decide +kernel
theorem d_Mo_putBody_118 : decode b_Mo_putBody 118 = .ok (.if_icmp .ne 18, 3) := by decide +kernel
theorem d_Mo_putBody_121 : decode b_Mo_putBody 121 = .ok (.aload_n 0, 1) := by decide +kernel
theorem d_Mo_putBody_122 : decode b_Mo_putBody 122 = .ok (.aload_n 0, 1) := by decide +kernel
theorem d_Mo_putBody_123 : decode b_Mo_putBody 123 = .ok (.getfield 47, 3) := by decide +kernel
theorem d_Mo_putBody_126 : decode b_Mo_putBody 126 = .ok (.bipush 12, 2) := by decide +kernel
theorem d_Mo_putBody_128 : decode b_Mo_putBody 128 = .ok (.iaload, 1) := by decide +kernel
theorem d_Mo_putBody_129 : decode b_Mo_putBody 129 = .ok (.i2l, 1) := by decide +kernel
theorem d_Mo_putBody_130 : decode b_Mo_putBody 130 = .ok (.invokevirtual 232, 3) := by decide +kernel
theorem d_Mo_putBody_133 : decode b_Mo_putBody 133 = .ok (.goto 53, 3) := by decide +kernel
theorem d_Mo_putBody_136 : decode b_Mo_putBody 136 = .ok (.iload 4, 2) := by decide +kernel
theorem d_Mo_putBody_138 : decode b_Mo_putBody 138 = .ok (.bipush 42, 2) := by decide +kernel
theorem d_Mo_putBody_140 : decode b_Mo_putBody 140 = .ok (.if_icmp .eq 10, 3) := by decide +kernel
theorem d_Mo_putBody_143 : decode b_Mo_putBody 143 = .ok (.iload 4, 2) := by decide +kernel
theorem d_Mo_putBody_145 : decode b_Mo_putBody 145 = .ok (.bipush 64, 2) := by decide +kernel
theorem d_Mo_putBody_147 : decode b_Mo_putBody 147 = .ok (.if_icmp .ne 23, 3) := by decide +kernel
theorem d_Mo_putBody_150 : decode b_Mo_putBody 150 = .ok (.aload_n 0, 1) := by decide +kernel
theorem d_Mo_putBody_151 : decode b_Mo_putBody 151 = .ok (.iconst 1, 1) := by decide +kernel
theorem d_Mo_putBody_152 : decode b_Mo_putBody 152 = .ok (.iload 4, 2) := by decide +kernel
theorem d_Mo_putBody_154 : decode b_Mo_putBody 154 = .ok (.bipush 64, 2) := by decide +kernel
theorem d_Mo_putBody_156 : decode b_Mo_putBody 156 = .ok (.if_icmp .ne 7, 3) := by decide +kernel
theorem d_Mo_putBody_159 : decode b_Mo_putBody 159 = .ok (.iconst 1, 1) := by decide +kernel
theorem d_Mo_putBody_160 : decode b_Mo_putBody 160 = .ok (.goto 4, 3) := by decide +kernel
theorem d_Mo_putBody_163 : decode b_Mo_putBody 163 = .ok (.iconst 0, 1) := by decide +kernel
theorem d_Mo_putBody_164 : decode b_Mo_putBody 164 = .ok (.invokevirtual 236, 3) := by decide +kernel
theorem d_Mo_putBody_167 : decode b_Mo_putBody 167 = .ok (.goto 19, 3) := by decide +kernel
theorem d_Mo_putBody_170 : decode b_Mo_putBody 170 = .ok (.iload 4, 2) := by decide +kernel
theorem d_Mo_putBody_172 : decode b_Mo_putBody 172 = .ok (.bipush 48, 2) := by decide +kernel
theorem d_Mo_putBody_174 : decode b_Mo_putBody 174 = .ok (.if_icmp .eq 12, 3) := by decide +kernel
theorem d_Mo_putBody_177 : decode b_Mo_putBody 177 = .ok (.aload_n 0, 1) := by decide +kernel
theorem d_Mo_putBody_178 : decode b_Mo_putBody 178 = .ok (.iload 4, 2) := by decide +kernel
theorem d_Mo_putBody_180 : decode b_Mo_putBody 180 = .ok (.bipush 48, 2) := by decide +kernel
theorem d_Mo_putBody_182 : decode b_Mo_putBody 182 = .ok (.isub, 1) := by decide +kernel
theorem d_Mo_putBody_183 : decode b_Mo_putBody 183 = .ok (.invokevirtual 223, 3) := by decide +kernel
theorem d_Mo_putBody_186 : decode b_Mo_putBody 186 = .ok (.iconst 0, 1) := by decide +kernel
theorem d_Mo_putBody_187 : decode b_Mo_putBody 187 = .ok (.istore 6, 2) := by decide +kernel
theorem d_Mo_putBody_189 : decode b_Mo_putBody 189 = .ok (.iload 6, 2) := by decide +kernel
theorem d_Mo_putBody_191 : decode b_Mo_putBody 191 = .ok (.aload_n 0, 1) := by decide +kernel
theorem d_Mo_putBody_192 : decode b_Mo_putBody 192 = .ok (.getfield 35, 3) := by decide +kernel
theorem d_Mo_putBody_195 : decode b_Mo_putBody 195 = .ok (.bipush 12, 2) := by decide +kernel
theorem d_Mo_putBody_197 : decode b_Mo_putBody 197 = .ok (.iaload, 1) := by decide +kernel
theorem d_Mo_putBody_198 : decode b_Mo_putBody 198 = .ok (.if_icmp .ge 31, 3) := by decide +kernel
theorem d_Mo_putBody_201 : decode b_Mo_putBody 201 = .ok (.iload 4, 2) := by decide +kernel
theorem d_Mo_putBody_203 : decode b_Mo_putBody 203 = .ok (.bipush 48, 2) := by decide +kernel
theorem d_Mo_putBody_205 : decode b_Mo_putBody 205 = .ok (.if_icmp .ne 24, 3) := by decide +kernel
theorem d_Mo_putBody_208 : decode b_Mo_putBody 208 = .ok (.aload_n 0, 1) := by decide +kernel
theorem d_Mo_putBody_209 : decode b_Mo_putBody 209 = .ok (.aload_n 0, 1) := by decide +kernel
theorem d_Mo_putBody_210 : decode b_Mo_putBody 210 = .ok (.getfield 32, 3) := by decide +kernel
theorem d_Mo_putBody_213 : decode b_Mo_putBody 213 = .ok (.sipush 144, 3) := by decide +kernel
theorem d_Mo_putBody_216 : decode b_Mo_putBody 216 = .ok (.iload 6, 2) := by decide +kernel
theorem d_Mo_putBody_218 : decode b_Mo_putBody 218 = .ok (.iadd, 1) := by decide +kernel
theorem d_Mo_putBody_219 : decode b_Mo_putBody 219 = .ok (.caload, 1) := by decide +kernel
theorem d_Mo_putBody_220 : decode b_Mo_putBody 220 = .ok (.invokevirtual 220, 3) := by decide +kernel
theorem d_Mo_putBody_223 : decode b_Mo_putBody 223 = .ok (.iinc 6 1, 3) := by decide +kernel
theorem d_Mo_putBody_226 : decode b_Mo_putBody 226 = .ok (.goto (-37), 3) := by decide +kernel
theorem d_Mo_putBody_229 : decode b_Mo_putBody 229 = .ok (.iinc 2 1, 3) := by decide +kernel
theorem d_Mo_putBody_232 : decode b_Mo_putBody 232 = .ok (.goto (-222), 3) := by decide +kernel
theorem d_Mo_putBody_235 : decode b_Mo_putBody 235 = .ok (.return_, 1) := by decide +kernel
theorem q_Mo_putBody : aw_q1 y_Mo_putBody b_Mo_putBody 7 none 0 := ⟨k_1052, k_79, ⟨by decide, by decide, by decide +kernel⟩, by decide⟩
def y_Mo_put : MethodName := ⟨"RescanDeskModel", "put", "(C)V"⟩
abbrev b_Mo_put : ByteArray := prog_14_method_29_code
theorem d_Mo_put_0 : decode b_Mo_put 0 = .ok (.aload_n 0, 1) := by decide +kernel
theorem d_Mo_put_1 : decode b_Mo_put 1 = .ok (.getfield 150, 3) := by decide +kernel
theorem d_Mo_put_4 : decode b_Mo_put 4 = .ok (.aload_n 0, 1) := by decide +kernel
theorem d_Mo_put_5 : decode b_Mo_put 5 = .ok (.getfield 217, 3) := by decide +kernel
theorem d_Mo_put_8 : decode b_Mo_put 8 = .ok (.iadd, 1) := by decide +kernel
theorem d_Mo_put_9 : decode b_Mo_put 9 = .ok (.sipush 600, 3) := by decide +kernel
theorem d_Mo_put_12 : decode b_Mo_put 12 = .ok (.if_icmp .lt 9, 3) := by decide +kernel
theorem d_Mo_put_15 : decode b_Mo_put 15 = .ok (.aload_n 0, 1) := by decide +kernel
theorem d_Mo_put_16 : decode b_Mo_put 16 = .ok (.iconst 2, 1) := by decide +kernel
theorem d_Mo_put_17 : decode b_Mo_put 17 = .ok (.invokevirtual 143, 3) := by decide +kernel
theorem d_Mo_put_20 : decode b_Mo_put 20 = .ok (.return_, 1) := by decide +kernel
theorem d_Mo_put_21 : decode b_Mo_put 21 = .ok (.aload_n 0, 1) := by decide +kernel
theorem d_Mo_put_22 : decode b_Mo_put 22 = .ok (.getfield 69, 3) := by decide +kernel
theorem d_Mo_put_25 : decode b_Mo_put 25 = .ok (.aload_n 0, 1) := by decide +kernel
theorem d_Mo_put_26 : decode b_Mo_put 26 = .ok (.getfield 217, 3) := by decide +kernel
theorem d_Mo_put_29 : decode b_Mo_put 29 = .ok (.iload_n 1, 1) := by decide +kernel
theorem d_Mo_put_30 : decode b_Mo_put 30 = .ok (.castore, 1) := by decide +kernel
theorem d_Mo_put_31 : decode b_Mo_put 31 = .ok (.aload_n 0, 1) := by decide +kernel
theorem d_Mo_put_32 : decode b_Mo_put 32 = .ok (.dup, 1) := by decide +kernel
theorem d_Mo_put_33 : decode b_Mo_put 33 = .ok (.getfield 217, 3) := by decide +kernel
theorem d_Mo_put_36 : decode b_Mo_put 36 = .ok (.iconst 1, 1) := by decide +kernel
theorem d_Mo_put_37 : decode b_Mo_put 37 = .ok (.iadd, 1) := by decide +kernel
theorem d_Mo_put_38 : decode b_Mo_put 38 = .ok (.putfield 217, 3) := by decide +kernel
theorem d_Mo_put_41 : decode b_Mo_put 41 = .ok (.return_, 1) := by decide +kernel
theorem q_Mo_put : aw_q1 y_Mo_put b_Mo_put 2 none 1 := ⟨k_1056, k_79, ⟨by decide, by decide, by decide +kernel⟩, by decide⟩
def y_Mo_putNumber : MethodName := ⟨"RescanDeskModel", "putNumber", "(J)V"⟩
abbrev b_Mo_putNumber : ByteArray := prog_14_method_32_code
theorem d_Mo_putNumber_0 : decode b_Mo_putNumber 0 = .ok (.lload_n 1, 1) := by decide +kernel
theorem d_Mo_putNumber_1 : decode b_Mo_putNumber 1 = .ok (.lconst 0, 1) := by decide +kernel
theorem d_Mo_putNumber_2 : decode b_Mo_putNumber 2 = .ok (.lcmp, 1) := by decide +kernel
theorem d_Mo_putNumber_3 : decode b_Mo_putNumber 3 = .ok (.ifCond .ge 9, 3) := by decide +kernel
theorem d_Mo_putNumber_6 : decode b_Mo_putNumber 6 = .ok (.aload_n 0, 1) := by decide +kernel
theorem d_Mo_putNumber_7 : decode b_Mo_putNumber 7 = .ok (.bipush 45, 2) := by decide +kernel
theorem d_Mo_putNumber_9 : decode b_Mo_putNumber 9 = .ok (.invokevirtual 220, 3) := by decide +kernel
theorem d_Mo_putNumber_12 : decode b_Mo_putNumber 12 = .ok (.iconst 1, 1) := by decide +kernel
theorem d_Mo_putNumber_13 : decode b_Mo_putNumber 13 = .ok (.istore_n 3, 1) := by decide +kernel
theorem d_Mo_putNumber_14 : decode b_Mo_putNumber 14 = .ok (.lload_n 1, 1) := by decide +kernel
theorem d_Mo_putNumber_15 : decode b_Mo_putNumber 15 = .ok (.ldc2_w 213, 3) := by decide +kernel
theorem d_Mo_putNumber_18 : decode b_Mo_putNumber 18 = .ok (.ldiv, 1) := by decide +kernel
theorem d_Mo_putNumber_19 : decode b_Mo_putNumber 19 = .ok (.lstore 4, 2) := by decide +kernel
theorem d_Mo_putNumber_21 : decode b_Mo_putNumber 21 = .ok (.lload 4, 2) := by decide +kernel
theorem d_Mo_putNumber_23 : decode b_Mo_putNumber 23 = .ok (.lconst 0, 1) := by decide +kernel
theorem d_Mo_putNumber_24 : decode b_Mo_putNumber 24 = .ok (.lcmp, 1) := by decide +kernel
theorem d_Mo_putNumber_25 : decode b_Mo_putNumber 25 = .ok (.ifCond .eq 17, 3) := by decide +kernel
theorem d_Mo_putNumber_28 : decode b_Mo_putNumber 28 = .ok (.iinc 3 1, 3) := by decide +kernel
theorem d_Mo_putNumber_31 : decode b_Mo_putNumber 31 = .ok (.lload 4, 2) := by decide +kernel
theorem d_Mo_putNumber_33 : decode b_Mo_putNumber 33 = .ok (.ldc2_w 213, 3) := by decide +kernel
theorem d_Mo_putNumber_36 : decode b_Mo_putNumber 36 = .ok (.ldiv, 1) := by decide +kernel
theorem d_Mo_putNumber_37 : decode b_Mo_putNumber 37 = .ok (.lstore 4, 2) := by decide +kernel
theorem d_Mo_putNumber_39 : decode b_Mo_putNumber 39 = .ok (.goto (-18), 3) := by decide +kernel
theorem d_Mo_putNumber_42 : decode b_Mo_putNumber 42 = .ok (.iload_n 3, 1) := by decide +kernel
theorem d_Mo_putNumber_43 : decode b_Mo_putNumber 43 = .ok (.iconst 1, 1) := by decide +kernel
theorem d_Mo_putNumber_44 : decode b_Mo_putNumber 44 = .ok (.isub, 1) := by decide +kernel
theorem d_Mo_putNumber_45 : decode b_Mo_putNumber 45 = .ok (.istore 4, 2) := by decide +kernel
theorem d_Mo_putNumber_47 : decode b_Mo_putNumber 47 = .ok (.iload 4, 2) := by decide +kernel
theorem d_Mo_putNumber_49 : decode b_Mo_putNumber 49 = .ok (.ifCond .lt 69, 3) := by decide +kernel
theorem d_Mo_putNumber_52 : decode b_Mo_putNumber 52 = .ok (.lload_n 1, 1) := by decide +kernel
theorem d_Mo_putNumber_53 : decode b_Mo_putNumber 53 = .ok (.lstore 5, 2) := by decide +kernel
theorem d_Mo_putNumber_55 : decode b_Mo_putNumber 55 = .ok (.iconst 0, 1) := by decide +kernel
theorem d_Mo_putNumber_56 : decode b_Mo_putNumber 56 = .ok (.istore 7, 2) := by decide +kernel
theorem d_Mo_putNumber_58 : decode b_Mo_putNumber 58 = .ok (.iload 7, 2) := by decide +kernel
theorem d_Mo_putNumber_60 : decode b_Mo_putNumber 60 = .ok (.iload 4, 2) := by decide +kernel
theorem d_Mo_putNumber_62 : decode b_Mo_putNumber 62 = .ok (.if_icmp .ge 17, 3) := by decide +kernel
theorem d_Mo_putNumber_65 : decode b_Mo_putNumber 65 = .ok (.lload 5, 2) := by decide +kernel
theorem d_Mo_putNumber_67 : decode b_Mo_putNumber 67 = .ok (.ldc2_w 213, 3) := by decide +kernel
theorem d_Mo_putNumber_70 : decode b_Mo_putNumber 70 = .ok (.ldiv, 1) := by decide +kernel
theorem d_Mo_putNumber_71 : decode b_Mo_putNumber 71 = .ok (.lstore 5, 2) := by decide +kernel
theorem d_Mo_putNumber_73 : decode b_Mo_putNumber 73 = .ok (.iinc 7 1, 3) := by decide +kernel
theorem d_Mo_putNumber_76 : decode b_Mo_putNumber 76 = .ok (.goto (-18), 3) := by decide +kernel
theorem d_Mo_putNumber_79 : decode b_Mo_putNumber 79 = .ok (.lload 5, 2) := by decide +kernel
theorem d_Mo_putNumber_81 : decode b_Mo_putNumber 81 = .ok (.ldc2_w 213, 3) := by decide +kernel
theorem d_Mo_putNumber_84 : decode b_Mo_putNumber 84 = .ok (.lrem, 1) := by decide +kernel
theorem d_Mo_putNumber_85 : decode b_Mo_putNumber 85 = .ok (.lstore 7, 2) := by decide +kernel
theorem d_Mo_putNumber_87 : decode b_Mo_putNumber 87 = .ok (.aload_n 0, 1) := by decide +kernel
theorem d_Mo_putNumber_88 : decode b_Mo_putNumber 88 = .ok (.ldc2_w 215, 3) := by decide +kernel
theorem d_Mo_putNumber_91 : decode b_Mo_putNumber 91 = .ok (.lload 7, 2) := by decide +kernel
theorem d_Mo_putNumber_93 : decode b_Mo_putNumber 93 = .ok (.lconst 0, 1) := by decide +kernel
theorem d_Mo_putNumber_94 : decode b_Mo_putNumber 94 = .ok (.lcmp, 1) := by decide +kernel
theorem d_Mo_putNumber_95 : decode b_Mo_putNumber 95 = .ok (.ifCond .ge 9, 3) := by decide +kernel
theorem d_Mo_putNumber_98 : decode b_Mo_putNumber 98 = .ok (.lload 7, 2) := by decide +kernel
theorem d_Mo_putNumber_100 : decode b_Mo_putNumber 100 = .ok (.lneg, 1) := by decide +kernel
theorem d_Mo_putNumber_101 : decode b_Mo_putNumber 101 = .ok (.goto 5, 3) := by decide +kernel
theorem d_Mo_putNumber_104 : decode b_Mo_putNumber 104 = .ok (.lload 7, 2) := by decide +kernel
theorem d_Mo_putNumber_106 : decode b_Mo_putNumber 106 = .ok (.ladd, 1) := by decide +kernel
theorem d_Mo_putNumber_107 : decode b_Mo_putNumber 107 = .ok (.l2i, 1) := by decide +kernel
theorem d_Mo_putNumber_108 : decode b_Mo_putNumber 108 = .ok (.i2c, 1) := by decide +kernel
theorem d_Mo_putNumber_109 : decode b_Mo_putNumber 109 = .ok (.invokevirtual 220, 3) := by decide +kernel
theorem d_Mo_putNumber_112 : decode b_Mo_putNumber 112 = .ok (.iinc 4 (-1), 3) := by decide +kernel
theorem d_Mo_putNumber_115 : decode b_Mo_putNumber 115 = .ok (.goto (-68), 3) := by decide +kernel
theorem d_Mo_putNumber_118 : decode b_Mo_putNumber 118 = .ok (.return_, 1) := by decide +kernel
theorem q_Mo_putNumber : aw_q1 y_Mo_putNumber b_Mo_putNumber 9 none 1 := ⟨k_1060, k_79, ⟨by decide, by decide, by decide +kernel⟩, by decide⟩
def y_Mo_putAll : MethodName := ⟨"RescanDeskModel", "putAll", "(IZ)V"⟩
abbrev b_Mo_putAll : ByteArray := prog_14_method_31_code
theorem d_Mo_putAll_0 : decode b_Mo_putAll 0 = .ok (.iload_n 1, 1) := by decide +kernel
theorem d_Mo_putAll_1 : decode b_Mo_putAll 1 = .ok (.istore_n 3, 1) := by decide +kernel
theorem d_Mo_putAll_2 : decode b_Mo_putAll 2 = .ok (.iload_n 3, 1) := by decide +kernel
theorem d_Mo_putAll_3 : decode b_Mo_putAll 3 = .ok (.aload_n 0, 1) := by decide +kernel
theorem d_Mo_putAll_4 : decode b_Mo_putAll 4 = .ok (.getfield 47, 3) := by decide +kernel
theorem d_Mo_putAll_7 : decode b_Mo_putAll 7 = .ok (.bipush 12, 2) := by decide +kernel
theorem d_Mo_putAll_9 : decode b_Mo_putAll 9 = .ok (.iaload, 1) := by decide +kernel
theorem d_Mo_putAll_10 : decode b_Mo_putAll 10 = .ok (.if_icmp .gt 52, 3) := by decide +kernel
theorem d_Mo_putAll_13 : decode b_Mo_putAll 13 = .ok (.aload_n 0, 1) := by decide +kernel
theorem d_Mo_putAll_14 : decode b_Mo_putAll 14 = .ok (.getfield 127, 3) := by decide +kernel
theorem d_Mo_putAll_17 : decode b_Mo_putAll 17 = .ok (.ifCond .ne 45, 3) := by decide +kernel
theorem d_Mo_putAll_20 : decode b_Mo_putAll 20 = .ok (.iload_n 3, 1) := by decide +kernel
theorem d_Mo_putAll_21 : decode b_Mo_putAll 21 = .ok (.iload_n 1, 1) := by decide +kernel
theorem d_Mo_putAll_22 : decode b_Mo_putAll 22 = .ok (.if_icmp .le 9, 3) := by decide +kernel
theorem d_Mo_putAll_25 : decode b_Mo_putAll 25 = .ok (.aload_n 0, 1) := by decide +kernel
theorem d_Mo_putAll_26 : decode b_Mo_putAll 26 = .ok (.bipush 44, 2) := by decide +kernel
theorem d_Mo_putAll_28 : decode b_Mo_putAll 28 = .ok (.invokevirtual 220, 3) := by decide +kernel
theorem d_Mo_putAll_31 : decode b_Mo_putAll 31 = .ok (.iload_n 2, 1) := by decide +kernel
theorem d_Mo_putAll_32 : decode b_Mo_putAll 32 = .ok (.ifCond .eq 9, 3) := by decide +kernel
theorem d_Mo_putAll_35 : decode b_Mo_putAll 35 = .ok (.aload_n 0, 1) := by decide +kernel
theorem d_Mo_putAll_36 : decode b_Mo_putAll 36 = .ok (.bipush 96, 2) := by decide +kernel
theorem d_Mo_putAll_38 : decode b_Mo_putAll 38 = .ok (.invokevirtual 220, 3) := by decide +kernel
theorem d_Mo_putAll_41 : decode b_Mo_putAll 41 = .ok (.aload_n 0, 1) := by decide +kernel
theorem d_Mo_putAll_42 : decode b_Mo_putAll 42 = .ok (.iload_n 3, 1) := by decide +kernel
theorem d_Mo_putAll_43 : decode b_Mo_putAll 43 = .ok (.invokevirtual 223, 3) := by decide +kernel
theorem d_Mo_putAll_46 : decode b_Mo_putAll 46 = .ok (.iload_n 2, 1) := by decide +kernel
theorem d_Mo_putAll_47 : decode b_Mo_putAll 47 = .ok (.ifCond .eq 9, 3) := by decide +kernel
theorem d_Mo_putAll_50 : decode b_Mo_putAll 50 = .ok (.aload_n 0, 1) := by decide +kernel
theorem d_Mo_putAll_51 : decode b_Mo_putAll 51 = .ok (.bipush 39, 2) := by decide +kernel
theorem d_Mo_putAll_53 : decode b_Mo_putAll 53 = .ok (.invokevirtual 220, 3) := by decide +kernel
theorem d_Mo_putAll_56 : decode b_Mo_putAll 56 = .ok (.iinc 3 1, 3) := by decide +kernel
theorem d_Mo_putAll_59 : decode b_Mo_putAll 59 = .ok (.goto (-57), 3) := by decide +kernel
theorem d_Mo_putAll_62 : decode b_Mo_putAll 62 = .ok (.return_, 1) := by decide +kernel
theorem q_Mo_putAll : aw_q1 y_Mo_putAll b_Mo_putAll 4 none 2 := ⟨k_1066, k_79, ⟨by decide, by decide, by decide +kernel⟩, by decide⟩
def y_Mo_putArgument : MethodName := ⟨"RescanDeskModel", "putArgument", "(I)V"⟩
abbrev b_Mo_putArgument : ByteArray := prog_14_method_30_code
theorem d_Mo_putArgument_0 : decode b_Mo_putArgument 0 = .ok (.iconst 0, 1) := by decide +kernel
theorem d_Mo_putArgument_1 : decode b_Mo_putArgument 1 = .ok (.istore_n 2, 1) := by decide +kernel
theorem d_Mo_putArgument_2 : decode b_Mo_putArgument 2 = .ok (.iload_n 2, 1) := by decide +kernel
theorem d_Mo_putArgument_3 : decode b_Mo_putArgument 3 = .ok (.aload_n 0, 1) := by decide +kernel
theorem d_Mo_putArgument_4 : decode b_Mo_putArgument 4 = .ok (.iload_n 1, 1) := by decide +kernel
theorem d_Mo_putArgument_5 : decode b_Mo_putArgument 5 = .ok (.invokevirtual 207, 3) := by decide +kernel
theorem d_Mo_putArgument_8 : decode b_Mo_putArgument 8 = .ok (.if_icmp .ge 32, 3) := by decide +kernel
theorem d_Mo_putArgument_11 : decode b_Mo_putArgument 11 = .ok (.aload_n 0, 1) := by decide +kernel
theorem d_Mo_putArgument_12 : decode b_Mo_putArgument 12 = .ok (.getfield 127, 3) := by decide +kernel
theorem d_Mo_putArgument_15 : decode b_Mo_putArgument 15 = .ok (.ifCond .ne 25, 3) := by decide +kernel
theorem d_Mo_putArgument_18 : decode b_Mo_putArgument 18 = .ok (.aload_n 0, 1) := by decide +kernel
theorem d_Mo_putArgument_19 : decode b_Mo_putArgument 19 = .ok (.aload_n 0, 1) := by decide +kernel
theorem d_Mo_putArgument_20 : decode b_Mo_putArgument 20 = .ok (.getfield 60, 3) := by decide +kernel
theorem d_Mo_putArgument_23 : decode b_Mo_putArgument 23 = .ok (.aload_n 0, 1) := by decide +kernel
theorem d_Mo_putArgument_24 : decode b_Mo_putArgument 24 = .ok (.iload_n 1, 1) := by decide +kernel
theorem d_Mo_putArgument_25 : decode b_Mo_putArgument 25 = .ok (.invokevirtual 210, 3) := by decide +kernel
theorem d_Mo_putArgument_28 : decode b_Mo_putArgument 28 = .ok (.iload_n 2, 1) := by decide +kernel
theorem d_Mo_putArgument_29 : decode b_Mo_putArgument 29 = .ok (.iadd, 1) := by decide +kernel
theorem d_Mo_putArgument_30 : decode b_Mo_putArgument 30 = .ok (.caload, 1) := by decide +kernel
theorem d_Mo_putArgument_31 : decode b_Mo_putArgument 31 = .ok (.invokevirtual 220, 3) := by decide +kernel
theorem d_Mo_putArgument_34 : decode b_Mo_putArgument 34 = .ok (.iinc 2 1, 3) := by decide +kernel
theorem d_Mo_putArgument_37 : decode b_Mo_putArgument 37 = .ok (.goto (-35), 3) := by decide +kernel
theorem d_Mo_putArgument_40 : decode b_Mo_putArgument 40 = .ok (.return_, 1) := by decide +kernel
theorem q_Mo_putArgument : aw_q1 y_Mo_putArgument b_Mo_putArgument 3 none 1 := ⟨k_1070, k_79, ⟨by decide, by decide, by decide +kernel⟩, by decide⟩
def y_Mo_length : MethodName := ⟨"RescanDeskModel", "length", "(I)I"⟩
abbrev b_Mo_length : ByteArray := prog_14_method_25_code
theorem d_Mo_length_0 : decode b_Mo_length 0 = .ok (.iload_n 1, 1) := by decide +kernel
theorem d_Mo_length_1 : decode b_Mo_length 1 = .ok (.iconst 1, 1) := by decide +kernel
theorem d_Mo_length_2 : decode b_Mo_length 2 = .ok (.aload_n 0, 1) := by decide +kernel
theorem d_Mo_length_3 : decode b_Mo_length 3 = .ok (.getfield 47, 3) := by decide +kernel
theorem d_Mo_length_6 : decode b_Mo_length 6 = .ok (.bipush 12, 2) := by decide +kernel
theorem d_Mo_length_8 : decode b_Mo_length 8 = .ok (.iaload, 1) := by decide +kernel
theorem d_Mo_length_9 : decode b_Mo_length 9 = .ok (.invokestatic 133, 3) := by decide +kernel
theorem d_Mo_length_12 : decode b_Mo_length 12 = .ok (.ifCond .eq 27, 3) := by decide +kernel
theorem d_Mo_length_15 : decode b_Mo_length 15 = .ok (.aload_n 0, 1) := by decide +kernel
theorem d_Mo_length_16 : decode b_Mo_length 16 = .ok (.getfield 50, 3) := by decide +kernel
theorem d_Mo_length_19 : decode b_Mo_length 19 = .ok (.sipush 132, 3) := by decide +kernel
theorem d_Mo_length_22 : decode b_Mo_length 22 = .ok (.iload_n 1, 1) := by decide +kernel
theorem d_Mo_length_23 : decode b_Mo_length 23 = .ok (.iadd, 1) := by decide +kernel
theorem d_Mo_length_24 : decode b_Mo_length 24 = .ok (.iaload, 1) := by decide +kernel
theorem d_Mo_length_25 : decode b_Mo_length 25 = .ok (.aload_n 0, 1) := by decide +kernel
theorem d_Mo_length_26 : decode b_Mo_length 26 = .ok (.getfield 50, 3) := by decide +kernel
theorem d_Mo_length_29 : decode b_Mo_length 29 = .ok (.sipush 131, 3) := by decide +kernel
theorem d_Mo_length_32 : decode b_Mo_length 32 = .ok (.iload_n 1, 1) := by decide +kernel
theorem d_Mo_length_33 : decode b_Mo_length 33 = .ok (.iadd, 1) := by decide +kernel
theorem d_Mo_length_34 : decode b_Mo_length 34 = .ok (.iaload, 1) := by decide +kernel
theorem d_Mo_length_35 : decode b_Mo_length 35 = .ok (.isub, 1) := by decide +kernel
theorem d_Mo_length_36 : decode b_Mo_length 36 = .ok (.goto 4, 3) := by decide +kernel
theorem d_Mo_length_39 : decode b_Mo_length 39 = .ok (.iconst 0, 1) := by decide +kernel
theorem d_Mo_length_40 : decode b_Mo_length 40 = .ok (.ireturn, 1) := by decide +kernel
theorem q_Mo_length : aw_q1 y_Mo_length b_Mo_length 2 (some .int) 1 := ⟨k_1074, k_79, ⟨by decide, by decide, by decide +kernel⟩, by decide⟩
def y_Mo_from : MethodName := ⟨"RescanDeskModel", "from", "(I)I"⟩
abbrev b_Mo_from : ByteArray := prog_14_method_24_code
theorem d_Mo_from_0 : decode b_Mo_from 0 = .ok (.iload_n 1, 1) := by decide +kernel
theorem d_Mo_from_1 : decode b_Mo_from 1 = .ok (.iconst 1, 1) := by decide +kernel
theorem d_Mo_from_2 : decode b_Mo_from 2 = .ok (.aload_n 0, 1) := by decide +kernel
theorem d_Mo_from_3 : decode b_Mo_from 3 = .ok (.getfield 47, 3) := by decide +kernel
theorem d_Mo_from_6 : decode b_Mo_from 6 = .ok (.bipush 12, 2) := by decide +kernel
theorem d_Mo_from_8 : decode b_Mo_from 8 = .ok (.iaload, 1) := by decide +kernel
theorem d_Mo_from_9 : decode b_Mo_from 9 = .ok (.invokestatic 133, 3) := by decide +kernel
theorem d_Mo_from_12 : decode b_Mo_from 12 = .ok (.ifCond .eq 16, 3) := by decide +kernel
theorem d_Mo_from_15 : decode b_Mo_from 15 = .ok (.aload_n 0, 1) := by decide +kernel
theorem d_Mo_from_16 : decode b_Mo_from 16 = .ok (.getfield 50, 3) := by decide +kernel
theorem d_Mo_from_19 : decode b_Mo_from 19 = .ok (.sipush 131, 3) := by decide +kernel
theorem d_Mo_from_22 : decode b_Mo_from 22 = .ok (.iload_n 1, 1) := by decide +kernel
theorem d_Mo_from_23 : decode b_Mo_from 23 = .ok (.iadd, 1) := by decide +kernel
theorem d_Mo_from_24 : decode b_Mo_from 24 = .ok (.iaload, 1) := by decide +kernel
theorem d_Mo_from_25 : decode b_Mo_from 25 = .ok (.goto 4, 3) := by decide +kernel
theorem d_Mo_from_28 : decode b_Mo_from 28 = .ok (.iconst 0, 1) := by decide +kernel
theorem d_Mo_from_29 : decode b_Mo_from 29 = .ok (.ireturn, 1) := by decide +kernel
theorem q_Mo_from : aw_q1 y_Mo_from b_Mo_from 2 (some .int) 1 := ⟨k_1078, k_79, ⟨by decide, by decide, by decide +kernel⟩, by decide⟩

