/-! RescanDesk$Expander at 412, its made text at 416: arguments, lists, parameters, bodies -/
def y_Ex_init : MethodName := ⟨"RescanDesk$Expander", "<init>", "(LRescanDesk$Front;LRescanDesk$Rows;LRescanDesk$Table;)V"⟩
abbrev b_Ex_init : ByteArray := prog_7_method_1_code
theorem d_Ex_init_0 : decode b_Ex_init 0 = .ok (.aload_n 0, 1) := by decide +kernel
theorem d_Ex_init_1 : decode b_Ex_init 1 = .ok (.invokespecial 3, 3) := by decide +kernel
theorem d_Ex_init_4 : decode b_Ex_init 4 = .ok (.aload_n 0, 1) := by decide +kernel
theorem d_Ex_init_5 : decode b_Ex_init 5 = .ok (.aload_n 1, 1) := by decide +kernel
theorem d_Ex_init_6 : decode b_Ex_init 6 = .ok (.putfield 9, 3) := by decide +kernel
theorem d_Ex_init_9 : decode b_Ex_init 9 = .ok (.aload_n 0, 1) := by decide +kernel
theorem d_Ex_init_10 : decode b_Ex_init 10 = .ok (.aload_n 2, 1) := by decide +kernel
theorem d_Ex_init_11 : decode b_Ex_init 11 = .ok (.putfield 15, 3) := by decide +kernel
theorem d_Ex_init_14 : decode b_Ex_init 14 = .ok (.aload_n 0, 1) := by decide +kernel
theorem d_Ex_init_15 : decode b_Ex_init 15 = .ok (.aload_n 3, 1) := by decide +kernel
theorem d_Ex_init_16 : decode b_Ex_init 16 = .ok (.putfield 19, 3) := by decide +kernel
theorem d_Ex_init_19 : decode b_Ex_init 19 = .ok (.aload_n 0, 1) := by decide +kernel
theorem d_Ex_init_20 : decode b_Ex_init 20 = .ok (.new 23, 3) := by decide +kernel
theorem d_Ex_init_23 : decode b_Ex_init 23 = .ok (.dup, 1) := by decide +kernel
theorem d_Ex_init_24 : decode b_Ex_init 24 = .ok (.invokespecial 25, 3) := by decide +kernel
theorem d_Ex_init_27 : decode b_Ex_init 27 = .ok (.putfield 26, 3) := by decide +kernel
theorem d_Ex_init_30 : decode b_Ex_init 30 = .ok (.aload_n 0, 1) := by decide +kernel
theorem d_Ex_init_31 : decode b_Ex_init 31 = .ok (.new 30, 3) := by decide +kernel
theorem d_Ex_init_34 : decode b_Ex_init 34 = .ok (.dup, 1) := by decide +kernel
theorem d_Ex_init_35 : decode b_Ex_init 35 = .ok (.sipush 601, 3) := by decide +kernel
theorem d_Ex_init_38 : decode b_Ex_init 38 = .ok (.invokespecial 32, 3) := by decide +kernel
theorem d_Ex_init_41 : decode b_Ex_init 41 = .ok (.putfield 35, 3) := by decide +kernel
theorem d_Ex_init_44 : decode b_Ex_init 44 = .ok (.return_, 1) := by decide +kernel
theorem q_Ex_init : aw_q1 y_Ex_init b_Ex_init 4 none 3 := ⟨k_331, k_77, ⟨by decide, by decide, by decide +kernel⟩, by decide⟩
def y_Ex_expand : MethodName := ⟨"RescanDesk$Expander", "expand", "(LRescanDesk$Call;)I"⟩
abbrev b_Ex_expand : ByteArray := prog_7_method_2_code
theorem d_Ex_expand_0 : decode b_Ex_expand 0 = .ok (.aload_n 0, 1) := by decide +kernel
theorem d_Ex_expand_1 : decode b_Ex_expand 1 = .ok (.getfield 35, 3) := by decide +kernel
theorem d_Ex_expand_4 : decode b_Ex_expand 4 = .ok (.invokevirtual 39, 3) := by decide +kernel
theorem d_Ex_expand_7 : decode b_Ex_expand 7 = .ok (.aload_n 1, 1) := by decide +kernel
theorem d_Ex_expand_8 : decode b_Ex_expand 8 = .ok (.getfield 42, 3) := by decide +kernel
theorem d_Ex_expand_11 : decode b_Ex_expand 11 = .ok (.getfield 48, 3) := by decide +kernel
theorem d_Ex_expand_14 : decode b_Ex_expand 14 = .ok (.astore_n 2, 1) := by decide +kernel
theorem d_Ex_expand_15 : decode b_Ex_expand 15 = .ok (.aload_n 2, 1) := by decide +kernel
theorem d_Ex_expand_16 : decode b_Ex_expand 16 = .ok (.ifnonnull 11, 3) := by decide +kernel
theorem d_Ex_expand_19 : decode b_Ex_expand 19 = .ok (.aload_n 0, 1) := by decide +kernel
theorem d_Ex_expand_20 : decode b_Ex_expand 20 = .ok (.aload_n 1, 1) := by decide +kernel
theorem d_Ex_expand_21 : decode b_Ex_expand 21 = .ok (.invokevirtual 54, 3) := by decide +kernel
theorem d_Ex_expand_24 : decode b_Ex_expand 24 = .ok (.goto 22, 3) := by decide +kernel
theorem d_Ex_expand_27 : decode b_Ex_expand 27 = .ok (.aload_n 0, 1) := by decide +kernel
theorem d_Ex_expand_28 : decode b_Ex_expand 28 = .ok (.aload_n 1, 1) := by decide +kernel
theorem d_Ex_expand_29 : decode b_Ex_expand 29 = .ok (.aload_n 2, 1) := by decide +kernel
theorem d_Ex_expand_30 : decode b_Ex_expand 30 = .ok (.invokevirtual 58, 3) := by decide +kernel
theorem d_Ex_expand_33 : decode b_Ex_expand 33 = .ok (.istore_n 3, 1) := by decide +kernel
theorem d_Ex_expand_34 : decode b_Ex_expand 34 = .ok (.iload_n 3, 1) := by decide +kernel
theorem d_Ex_expand_35 : decode b_Ex_expand 35 = .ok (.ifCond .eq 5, 3) := by decide +kernel
theorem d_Ex_expand_38 : decode b_Ex_expand 38 = .ok (.iload_n 3, 1) := by decide +kernel
theorem d_Ex_expand_39 : decode b_Ex_expand 39 = .ok (.ireturn, 1) := by decide +kernel
theorem d_Ex_expand_40 : decode b_Ex_expand 40 = .ok (.aload_n 0, 1) := by decide +kernel
theorem d_Ex_expand_41 : decode b_Ex_expand 41 = .ok (.aload_n 1, 1) := by decide +kernel
theorem d_Ex_expand_42 : decode b_Ex_expand 42 = .ok (.aload_n 2, 1) := by decide +kernel
theorem d_Ex_expand_43 : decode b_Ex_expand 43 = .ok (.invokevirtual 62, 3) := by decide +kernel
theorem d_Ex_expand_46 : decode b_Ex_expand 46 = .ok (.aload_n 0, 1) := by decide +kernel
theorem d_Ex_expand_47 : decode b_Ex_expand 47 = .ok (.getfield 9, 3) := by decide +kernel
theorem d_Ex_expand_50 : decode b_Ex_expand 50 = .ok (.aload_n 0, 1) := by decide +kernel
theorem d_Ex_expand_51 : decode b_Ex_expand 51 = .ok (.getfield 35, 3) := by decide +kernel
theorem d_Ex_expand_54 : decode b_Ex_expand 54 = .ok (.invokevirtual 66, 3) := by decide +kernel
theorem d_Ex_expand_57 : decode b_Ex_expand 57 = .ok (.ifCond .eq 7, 3) := by decide +kernel
theorem d_Ex_expand_60 : decode b_Ex_expand 60 = .ok (.iconst 0, 1) := by decide +kernel
theorem d_Ex_expand_61 : decode b_Ex_expand 61 = .ok (.goto 4, 3) := by decide +kernel
theorem d_Ex_expand_64 : decode b_Ex_expand 64 = .ok (.iconst 2, 1) := by decide +kernel
theorem d_Ex_expand_65 : decode b_Ex_expand 65 = .ok (.ireturn, 1) := by decide +kernel
theorem q_Ex_expand : aw_q1 y_Ex_expand b_Ex_expand 4 (some .int) 1 := ⟨k_611, k_77, ⟨by decide, by decide, by decide +kernel⟩, by decide⟩
def y_Ex_makeBody : MethodName := ⟨"RescanDesk$Expander", "makeBody", "(LRescanDesk$Call;)V"⟩
abbrev b_Ex_makeBody : ByteArray := prog_7_method_3_code
theorem d_Ex_makeBody_0 : decode b_Ex_makeBody 0 = .ok (.aload_n 1, 1) := by decide +kernel
theorem d_Ex_makeBody_1 : decode b_Ex_makeBody 1 = .ok (.getfield 42, 3) := by decide +kernel
theorem d_Ex_makeBody_4 : decode b_Ex_makeBody 4 = .ok (.getfield 72, 3) := by decide +kernel
theorem d_Ex_makeBody_7 : decode b_Ex_makeBody 7 = .ok (.astore_n 2, 1) := by decide +kernel
theorem d_Ex_makeBody_8 : decode b_Ex_makeBody 8 = .ok (.iconst 0, 1) := by decide +kernel
theorem d_Ex_makeBody_9 : decode b_Ex_makeBody 9 = .ok (.istore_n 3, 1) := by decide +kernel
theorem d_Ex_makeBody_10 : decode b_Ex_makeBody 10 = .ok (.iload_n 3, 1) := by decide +kernel
theorem d_Ex_makeBody_11 : decode b_Ex_makeBody 11 = .ok (.aload_n 2, 1) := by decide +kernel
theorem d_Ex_makeBody_12 : decode b_Ex_makeBody 12 = .ok (.getfield 75, 3) := by decide +kernel
theorem d_Ex_makeBody_15 : decode b_Ex_makeBody 15 = .ok (.if_icmp .ge 82, 3) := by decide +kernel
theorem d_Ex_makeBody_18 : decode b_Ex_makeBody 18 = .ok (.aload_n 2, 1) := by decide +kernel
theorem d_Ex_makeBody_19 : decode b_Ex_makeBody 19 = .ok (.getfield 79, 3) := by decide +kernel
theorem d_Ex_makeBody_22 : decode b_Ex_makeBody 22 = .ok (.iload_n 3, 1) := by decide +kernel
theorem d_Ex_makeBody_23 : decode b_Ex_makeBody 23 = .ok (.caload, 1) := by decide +kernel
theorem d_Ex_makeBody_24 : decode b_Ex_makeBody 24 = .ok (.bipush 36, 2) := by decide +kernel
theorem d_Ex_makeBody_26 : decode b_Ex_makeBody 26 = .ok (.if_icmp .ne 33, 3) := by decide +kernel
theorem d_Ex_makeBody_29 : decode b_Ex_makeBody 29 = .ok (.iload_n 3, 1) := by decide +kernel
theorem d_Ex_makeBody_30 : decode b_Ex_makeBody 30 = .ok (.iconst 1, 1) := by decide +kernel
theorem d_Ex_makeBody_31 : decode b_Ex_makeBody 31 = .ok (.iadd, 1) := by decide +kernel
theorem d_Ex_makeBody_32 : decode b_Ex_makeBody 32 = .ok (.aload_n 2, 1) := by decide +kernel
theorem d_Ex_makeBody_33 : decode b_Ex_makeBody 33 = .ok (.getfield 75, 3) := by decide +kernel
theorem d_Ex_makeBody_36 : decode b_Ex_makeBody 36 = .ok (.if_icmp .ge 23, 3) := by decide +kernel
theorem d_Ex_makeBody_39 : decode b_Ex_makeBody 39 = .ok (.aload_n 0, 1) := by decide +kernel
theorem d_Ex_makeBody_40 : decode b_Ex_makeBody 40 = .ok (.aload_n 1, 1) := by decide +kernel
theorem d_Ex_makeBody_41 : decode b_Ex_makeBody 41 = .ok (.aload_n 2, 1) := by decide +kernel
theorem d_Ex_makeBody_42 : decode b_Ex_makeBody 42 = .ok (.getfield 79, 3) := by decide +kernel
theorem d_Ex_makeBody_45 : decode b_Ex_makeBody 45 = .ok (.iload_n 3, 1) := by decide +kernel
theorem d_Ex_makeBody_46 : decode b_Ex_makeBody 46 = .ok (.iconst 1, 1) := by decide +kernel
theorem d_Ex_makeBody_47 : decode b_Ex_makeBody 47 = .ok (.iadd, 1) := by decide +kernel
theorem d_Ex_makeBody_48 : decode b_Ex_makeBody 48 = .ok (.caload, 1) := by decide +kernel
theorem d_Ex_makeBody_49 : decode b_Ex_makeBody 49 = .ok (.invokevirtual 83, 3) := by decide +kernel
theorem d_Ex_makeBody_52 : decode b_Ex_makeBody 52 = .ok (.ifCond .eq 7, 3) := by decide +kernel
theorem d_Ex_makeBody_55 : decode b_Ex_makeBody 55 = .ok (.iconst 1, 1) := by decide +kernel
theorem d_Ex_makeBody_56 : decode b_Ex_makeBody 56 = .ok (.goto 4, 3) := by decide +kernel
theorem d_Ex_makeBody_59 : decode b_Ex_makeBody 59 = .ok (.iconst 0, 1) := by decide +kernel
theorem d_Ex_makeBody_60 : decode b_Ex_makeBody 60 = .ok (.istore 4, 2) := by decide +kernel
theorem d_Ex_makeBody_62 : decode b_Ex_makeBody 62 = .ok (.iload 4, 2) := by decide +kernel
theorem d_Ex_makeBody_64 : decode b_Ex_makeBody 64 = .ok (.ifCond .ne 17, 3) := by decide +kernel
theorem d_Ex_makeBody_67 : decode b_Ex_makeBody 67 = .ok (.aload_n 0, 1) := by decide +kernel
theorem d_Ex_makeBody_68 : decode b_Ex_makeBody 68 = .ok (.getfield 35, 3) := by decide +kernel
theorem d_Ex_makeBody_71 : decode b_Ex_makeBody 71 = .ok (.aload_n 2, 1) := by decide +kernel
theorem d_Ex_makeBody_72 : decode b_Ex_makeBody 72 = .ok (.getfield 79, 3) := by decide +kernel
theorem d_Ex_makeBody_75 : decode b_Ex_makeBody 75 = .ok (.iload_n 3, 1) := by decide +kernel
theorem d_Ex_makeBody_76 : decode b_Ex_makeBody 76 = .ok (.caload, 1) := by decide +kernel
theorem d_Ex_makeBody_77 : decode b_Ex_makeBody 77 = .ok (.invokevirtual 87, 3) := by decide +kernel
theorem d_Ex_makeBody_80 : decode b_Ex_makeBody 80 = .ok (.pop, 1) := by decide +kernel
theorem d_Ex_makeBody_81 : decode b_Ex_makeBody 81 = .ok (.iload_n 3, 1) := by decide +kernel
theorem d_Ex_makeBody_82 : decode b_Ex_makeBody 82 = .ok (.iload 4, 2) := by decide +kernel
theorem d_Ex_makeBody_84 : decode b_Ex_makeBody 84 = .ok (.ifCond .eq 7, 3) := by decide +kernel
theorem d_Ex_makeBody_87 : decode b_Ex_makeBody 87 = .ok (.iconst 2, 1) := by decide +kernel
theorem d_Ex_makeBody_88 : decode b_Ex_makeBody 88 = .ok (.goto 4, 3) := by decide +kernel
theorem d_Ex_makeBody_91 : decode b_Ex_makeBody 91 = .ok (.iconst 1, 1) := by decide +kernel
theorem d_Ex_makeBody_92 : decode b_Ex_makeBody 92 = .ok (.iadd, 1) := by decide +kernel
theorem d_Ex_makeBody_93 : decode b_Ex_makeBody 93 = .ok (.istore_n 3, 1) := by decide +kernel
theorem d_Ex_makeBody_94 : decode b_Ex_makeBody 94 = .ok (.goto (-84), 3) := by decide +kernel
theorem d_Ex_makeBody_97 : decode b_Ex_makeBody 97 = .ok (.return_, 1) := by decide +kernel
theorem q_Ex_makeBody : aw_q1 y_Ex_makeBody b_Ex_makeBody 5 none 1 := ⟨k_616, k_77, ⟨by decide, by decide, by decide +kernel⟩, by decide⟩
def y_Ex_makeParameter : MethodName := ⟨"RescanDesk$Expander", "makeParameter", "(LRescanDesk$Call;C)Z"⟩
abbrev b_Ex_makeParameter : ByteArray := prog_7_method_4_code
theorem d_Ex_makeParameter_0 : decode b_Ex_makeParameter 0 = .ok (.iload_n 2, 1) := by decide +kernel
theorem d_Ex_makeParameter_1 : decode b_Ex_makeParameter 1 = .ok (.bipush 48, 2) := by decide +kernel
theorem d_Ex_makeParameter_3 : decode b_Ex_makeParameter 3 = .ok (.if_icmp .ne 31, 3) := by decide +kernel
theorem d_Ex_makeParameter_6 : decode b_Ex_makeParameter 6 = .ok (.aload_n 1, 1) := by decide +kernel
theorem d_Ex_makeParameter_7 : decode b_Ex_makeParameter 7 = .ok (.getfield 42, 3) := by decide +kernel
theorem d_Ex_makeParameter_10 : decode b_Ex_makeParameter 10 = .ok (.getfield 91, 3) := by decide +kernel
theorem d_Ex_makeParameter_13 : decode b_Ex_makeParameter 13 = .ok (.astore_n 3, 1) := by decide +kernel
theorem d_Ex_makeParameter_14 : decode b_Ex_makeParameter 14 = .ok (.aload_n 0, 1) := by decide +kernel
theorem d_Ex_makeParameter_15 : decode b_Ex_makeParameter 15 = .ok (.getfield 35, 3) := by decide +kernel
theorem d_Ex_makeParameter_18 : decode b_Ex_makeParameter 18 = .ok (.aload_n 3, 1) := by decide +kernel
theorem d_Ex_makeParameter_19 : decode b_Ex_makeParameter 19 = .ok (.getfield 79, 3) := by decide +kernel
theorem d_Ex_makeParameter_22 : decode b_Ex_makeParameter 22 = .ok (.iconst 0, 1) := by decide +kernel
theorem d_Ex_makeParameter_23 : decode b_Ex_makeParameter 23 = .ok (.aload_n 3, 1) := by decide +kernel
theorem d_Ex_makeParameter_24 : decode b_Ex_makeParameter 24 = .ok (.getfield 75, 3) := by decide +kernel
theorem d_Ex_makeParameter_27 : decode b_Ex_makeParameter 27 = .ok (.invokevirtual 94, 3) := by decide +kernel
theorem d_Ex_makeParameter_30 : decode b_Ex_makeParameter 30 = .ok (.pop, 1) := by decide +kernel
theorem d_Ex_makeParameter_31 : decode b_Ex_makeParameter 31 = .ok (.goto 77, 3) := by decide +kernel
theorem d_Ex_makeParameter_34 : decode b_Ex_makeParameter 34 = .ok (.iload_n 2, 1) := by decide +kernel
theorem d_Ex_makeParameter_35 : decode b_Ex_makeParameter 35 = .ok (.invokestatic 98, 3) := by decide +kernel
theorem d_Ex_makeParameter_38 : decode b_Ex_makeParameter 38 = .ok (.ifCond .eq 15, 3) := by decide +kernel
theorem d_Ex_makeParameter_41 : decode b_Ex_makeParameter 41 = .ok (.aload_n 0, 1) := by decide +kernel
theorem d_Ex_makeParameter_42 : decode b_Ex_makeParameter 42 = .ok (.aload_n 1, 1) := by decide +kernel
theorem d_Ex_makeParameter_43 : decode b_Ex_makeParameter 43 = .ok (.iload_n 2, 1) := by decide +kernel
theorem d_Ex_makeParameter_44 : decode b_Ex_makeParameter 44 = .ok (.bipush 48, 2) := by decide +kernel
theorem d_Ex_makeParameter_46 : decode b_Ex_makeParameter 46 = .ok (.isub, 1) := by decide +kernel
theorem d_Ex_makeParameter_47 : decode b_Ex_makeParameter 47 = .ok (.invokevirtual 101, 3) := by decide +kernel
theorem d_Ex_makeParameter_50 : decode b_Ex_makeParameter 50 = .ok (.goto 58, 3) := by decide +kernel
theorem d_Ex_makeParameter_53 : decode b_Ex_makeParameter 53 = .ok (.iload_n 2, 1) := by decide +kernel
theorem d_Ex_makeParameter_54 : decode b_Ex_makeParameter 54 = .ok (.bipush 35, 2) := by decide +kernel
theorem d_Ex_makeParameter_56 : decode b_Ex_makeParameter 56 = .ok (.if_icmp .ne 18, 3) := by decide +kernel
theorem d_Ex_makeParameter_59 : decode b_Ex_makeParameter 59 = .ok (.aload_n 0, 1) := by decide +kernel
theorem d_Ex_makeParameter_60 : decode b_Ex_makeParameter 60 = .ok (.getfield 35, 3) := by decide +kernel
theorem d_Ex_makeParameter_63 : decode b_Ex_makeParameter 63 = .ok (.aload_n 1, 1) := by decide +kernel
theorem d_Ex_makeParameter_64 : decode b_Ex_makeParameter 64 = .ok (.getfield 105, 3) := by decide +kernel
theorem d_Ex_makeParameter_67 : decode b_Ex_makeParameter 67 = .ok (.i2l, 1) := by decide +kernel
theorem d_Ex_makeParameter_68 : decode b_Ex_makeParameter 68 = .ok (.invokevirtual 108, 3) := by decide +kernel
theorem d_Ex_makeParameter_71 : decode b_Ex_makeParameter 71 = .ok (.goto 37, 3) := by decide +kernel
theorem d_Ex_makeParameter_74 : decode b_Ex_makeParameter 74 = .ok (.iload_n 2, 1) := by decide +kernel
theorem d_Ex_makeParameter_75 : decode b_Ex_makeParameter 75 = .ok (.bipush 42, 2) := by decide +kernel
theorem d_Ex_makeParameter_77 : decode b_Ex_makeParameter 77 = .ok (.if_icmp .ne 13, 3) := by decide +kernel
theorem d_Ex_makeParameter_80 : decode b_Ex_makeParameter 80 = .ok (.aload_n 0, 1) := by decide +kernel
theorem d_Ex_makeParameter_81 : decode b_Ex_makeParameter 81 = .ok (.aload_n 1, 1) := by decide +kernel
theorem d_Ex_makeParameter_82 : decode b_Ex_makeParameter 82 = .ok (.iconst 1, 1) := by decide +kernel
theorem d_Ex_makeParameter_83 : decode b_Ex_makeParameter 83 = .ok (.iconst 0, 1) := by decide +kernel
theorem d_Ex_makeParameter_84 : decode b_Ex_makeParameter 84 = .ok (.invokevirtual 112, 3) := by decide +kernel
theorem d_Ex_makeParameter_87 : decode b_Ex_makeParameter 87 = .ok (.goto 21, 3) := by decide +kernel
theorem d_Ex_makeParameter_90 : decode b_Ex_makeParameter 90 = .ok (.iload_n 2, 1) := by decide +kernel
theorem d_Ex_makeParameter_91 : decode b_Ex_makeParameter 91 = .ok (.bipush 64, 2) := by decide +kernel
theorem d_Ex_makeParameter_93 : decode b_Ex_makeParameter 93 = .ok (.if_icmp .ne 13, 3) := by decide +kernel
theorem d_Ex_makeParameter_96 : decode b_Ex_makeParameter 96 = .ok (.aload_n 0, 1) := by decide +kernel
theorem d_Ex_makeParameter_97 : decode b_Ex_makeParameter 97 = .ok (.aload_n 1, 1) := by decide +kernel
theorem d_Ex_makeParameter_98 : decode b_Ex_makeParameter 98 = .ok (.iconst 1, 1) := by decide +kernel
theorem d_Ex_makeParameter_99 : decode b_Ex_makeParameter 99 = .ok (.iconst 1, 1) := by decide +kernel
theorem d_Ex_makeParameter_100 : decode b_Ex_makeParameter 100 = .ok (.invokevirtual 112, 3) := by decide +kernel
theorem d_Ex_makeParameter_103 : decode b_Ex_makeParameter 103 = .ok (.goto 5, 3) := by decide +kernel
theorem d_Ex_makeParameter_106 : decode b_Ex_makeParameter 106 = .ok (.iconst 0, 1) := by decide +kernel
theorem d_Ex_makeParameter_107 : decode b_Ex_makeParameter 107 = .ok (.ireturn, 1) := by decide +kernel
theorem d_Ex_makeParameter_108 : decode b_Ex_makeParameter 108 = .ok (.iconst 1, 1) := by decide +kernel
theorem d_Ex_makeParameter_109 : decode b_Ex_makeParameter 109 = .ok (.ireturn, 1) := by decide +kernel
theorem q_Ex_makeParameter : aw_q1 y_Ex_makeParameter b_Ex_makeParameter 4 (some .boolean) 2 := ⟨k_620, k_77, ⟨by decide, by decide, by decide +kernel⟩, by decide⟩
def y_Ex_makeArgument : MethodName := ⟨"RescanDesk$Expander", "makeArgument", "(LRescanDesk$Call;I)V"⟩
abbrev b_Ex_makeArgument : ByteArray := prog_7_method_5_code
theorem d_Ex_makeArgument_0 : decode b_Ex_makeArgument 0 = .ok (.aload_n 0, 1) := by decide +kernel
theorem d_Ex_makeArgument_1 : decode b_Ex_makeArgument 1 = .ok (.getfield 35, 3) := by decide +kernel
theorem d_Ex_makeArgument_4 : decode b_Ex_makeArgument 4 = .ok (.aload_n 1, 1) := by decide +kernel
theorem d_Ex_makeArgument_5 : decode b_Ex_makeArgument 5 = .ok (.getfield 116, 3) := by decide +kernel
theorem d_Ex_makeArgument_8 : decode b_Ex_makeArgument 8 = .ok (.aload_n 1, 1) := by decide +kernel
theorem d_Ex_makeArgument_9 : decode b_Ex_makeArgument 9 = .ok (.iload_n 2, 1) := by decide +kernel
theorem d_Ex_makeArgument_10 : decode b_Ex_makeArgument 10 = .ok (.invokevirtual 117, 3) := by decide +kernel
theorem d_Ex_makeArgument_13 : decode b_Ex_makeArgument 13 = .ok (.aload_n 1, 1) := by decide +kernel
theorem d_Ex_makeArgument_14 : decode b_Ex_makeArgument 14 = .ok (.iload_n 2, 1) := by decide +kernel
theorem d_Ex_makeArgument_15 : decode b_Ex_makeArgument 15 = .ok (.invokevirtual 121, 3) := by decide +kernel
theorem d_Ex_makeArgument_18 : decode b_Ex_makeArgument 18 = .ok (.invokevirtual 94, 3) := by decide +kernel
theorem d_Ex_makeArgument_21 : decode b_Ex_makeArgument 21 = .ok (.pop, 1) := by decide +kernel
theorem d_Ex_makeArgument_22 : decode b_Ex_makeArgument 22 = .ok (.return_, 1) := by decide +kernel
theorem q_Ex_makeArgument : aw_q1 y_Ex_makeArgument b_Ex_makeArgument 3 none 2 := ⟨k_626, k_77, ⟨by decide, by decide, by decide +kernel⟩, by decide⟩
def y_Ex_makeList : MethodName := ⟨"RescanDesk$Expander", "makeList", "(LRescanDesk$Call;IZ)V"⟩
abbrev b_Ex_makeList : ByteArray := prog_7_method_6_code
theorem d_Ex_makeList_0 : decode b_Ex_makeList 0 = .ok (.iload_n 2, 1) := by decide +kernel
theorem d_Ex_makeList_1 : decode b_Ex_makeList 1 = .ok (.istore 4, 2) := by decide +kernel
theorem d_Ex_makeList_3 : decode b_Ex_makeList 3 = .ok (.iload 4, 2) := by decide +kernel
theorem d_Ex_makeList_5 : decode b_Ex_makeList 5 = .ok (.aload_n 1, 1) := by decide +kernel
theorem d_Ex_makeList_6 : decode b_Ex_makeList 6 = .ok (.getfield 105, 3) := by decide +kernel
theorem d_Ex_makeList_9 : decode b_Ex_makeList 9 = .ok (.if_icmp .gt 60, 3) := by decide +kernel
theorem d_Ex_makeList_12 : decode b_Ex_makeList 12 = .ok (.iload 4, 2) := by decide +kernel
theorem d_Ex_makeList_14 : decode b_Ex_makeList 14 = .ok (.iload_n 2, 1) := by decide +kernel
theorem d_Ex_makeList_15 : decode b_Ex_makeList 15 = .ok (.if_icmp .le 13, 3) := by decide +kernel
theorem d_Ex_makeList_18 : decode b_Ex_makeList 18 = .ok (.aload_n 0, 1) := by decide +kernel
theorem d_Ex_makeList_19 : decode b_Ex_makeList 19 = .ok (.getfield 35, 3) := by decide +kernel
theorem d_Ex_makeList_22 : decode b_Ex_makeList 22 = .ok (.bipush 44, 2) := by decide +kernel
theorem d_Ex_makeList_24 : decode b_Ex_makeList 24 = .ok (.invokevirtual 87, 3) := by decide +kernel
theorem d_Ex_makeList_27 : decode b_Ex_makeList 27 = .ok (.pop, 1) := by decide +kernel
theorem d_Ex_makeList_28 : decode b_Ex_makeList 28 = .ok (.iload_n 3, 1) := by decide +kernel
theorem d_Ex_makeList_29 : decode b_Ex_makeList 29 = .ok (.ifCond .eq 13, 3) := by decide +kernel
theorem d_Ex_makeList_32 : decode b_Ex_makeList 32 = .ok (.aload_n 0, 1) := by decide +kernel
theorem d_Ex_makeList_33 : decode b_Ex_makeList 33 = .ok (.getfield 35, 3) := by decide +kernel
theorem d_Ex_makeList_36 : decode b_Ex_makeList 36 = .ok (.bipush 96, 2) := by decide +kernel
theorem d_Ex_makeList_38 : decode b_Ex_makeList 38 = .ok (.invokevirtual 87, 3) := by decide +kernel
theorem d_Ex_makeList_41 : decode b_Ex_makeList 41 = .ok (.pop, 1) := by decide +kernel
theorem d_Ex_makeList_42 : decode b_Ex_makeList 42 = .ok (.aload_n 0, 1) := by decide +kernel
theorem d_Ex_makeList_43 : decode b_Ex_makeList 43 = .ok (.aload_n 1, 1) := by decide +kernel
theorem d_Ex_makeList_44 : decode b_Ex_makeList 44 = .ok (.iload 4, 2) := by decide +kernel
theorem d_Ex_makeList_46 : decode b_Ex_makeList 46 = .ok (.invokevirtual 101, 3) := by decide +kernel
theorem d_Ex_makeList_49 : decode b_Ex_makeList 49 = .ok (.iload_n 3, 1) := by decide +kernel
theorem d_Ex_makeList_50 : decode b_Ex_makeList 50 = .ok (.ifCond .eq 13, 3) := by decide +kernel
theorem d_Ex_makeList_53 : decode b_Ex_makeList 53 = .ok (.aload_n 0, 1) := by decide +kernel
theorem d_Ex_makeList_54 : decode b_Ex_makeList 54 = .ok (.getfield 35, 3) := by decide +kernel
theorem d_Ex_makeList_57 : decode b_Ex_makeList 57 = .ok (.bipush 39, 2) := by decide +kernel
theorem d_Ex_makeList_59 : decode b_Ex_makeList 59 = .ok (.invokevirtual 87, 3) := by decide +kernel
theorem d_Ex_makeList_62 : decode b_Ex_makeList 62 = .ok (.pop, 1) := by decide +kernel
theorem d_Ex_makeList_63 : decode b_Ex_makeList 63 = .ok (.iinc 4 1, 3) := by decide +kernel
theorem d_Ex_makeList_66 : decode b_Ex_makeList 66 = .ok (.goto (-63), 3) := by decide +kernel
theorem d_Ex_makeList_69 : decode b_Ex_makeList 69 = .ok (.return_, 1) := by decide +kernel
theorem q_Ex_makeList : aw_q1 y_Ex_makeList b_Ex_makeList 5 none 3 := ⟨k_646, k_77, ⟨by decide, by decide, by decide +kernel⟩, by decide⟩
def y_Ex_act : MethodName := ⟨"RescanDesk$Expander", "act", "(LRescanDesk$Call;LRescanDesk$BuiltIn;)I"⟩
abbrev b_Ex_act : ByteArray := prog_7_method_7_code
theorem d_Ex_act_0 : decode b_Ex_act 0 = .ok (.getstatic 124, 3) := by decide +kernel
theorem d_Ex_act_3 : decode b_Ex_act 3 = .ok (.aload_n 2, 1) := by decide +kernel
theorem d_Ex_act_4 : decode b_Ex_act 4 = .ok (.invokevirtual 130, 3) := by decide +kernel
theorem d_Ex_act_7 : decode b_Ex_act 7 = .ok (.iaload, 1) := by decide +kernel
theorem d_Ex_act_8 : decode b_Ex_act 8 = .ok (.tableswitch 163 1 8 #[48, 55, 62, 85, 108, 122, 128, 137], 48) := by decide +kernel
theorem d_Ex_act_56 : decode b_Ex_act 56 = .ok (.aload_n 0, 1) := by decide +kernel
theorem d_Ex_act_57 : decode b_Ex_act 57 = .ok (.aload_n 1, 1) := by decide +kernel
theorem d_Ex_act_58 : decode b_Ex_act 58 = .ok (.iconst 0, 1) := by decide +kernel
theorem d_Ex_act_59 : decode b_Ex_act 59 = .ok (.invokevirtual 136, 3) := by decide +kernel
theorem d_Ex_act_62 : decode b_Ex_act 62 = .ok (.ireturn, 1) := by decide +kernel
theorem d_Ex_act_63 : decode b_Ex_act 63 = .ok (.aload_n 0, 1) := by decide +kernel
theorem d_Ex_act_64 : decode b_Ex_act 64 = .ok (.aload_n 1, 1) := by decide +kernel
theorem d_Ex_act_65 : decode b_Ex_act 65 = .ok (.iconst 1, 1) := by decide +kernel
theorem d_Ex_act_66 : decode b_Ex_act 66 = .ok (.invokevirtual 136, 3) := by decide +kernel
theorem d_Ex_act_69 : decode b_Ex_act 69 = .ok (.ireturn, 1) := by decide +kernel
theorem d_Ex_act_70 : decode b_Ex_act 70 = .ok (.aload_n 0, 1) := by decide +kernel
theorem d_Ex_act_71 : decode b_Ex_act 71 = .ok (.getfield 19, 3) := by decide +kernel
theorem d_Ex_act_74 : decode b_Ex_act 74 = .ok (.aload_n 1, 1) := by decide +kernel
theorem d_Ex_act_75 : decode b_Ex_act 75 = .ok (.getfield 116, 3) := by decide +kernel
theorem d_Ex_act_78 : decode b_Ex_act 78 = .ok (.aload_n 1, 1) := by decide +kernel
theorem d_Ex_act_79 : decode b_Ex_act 79 = .ok (.iconst 1, 1) := by decide +kernel
theorem d_Ex_act_80 : decode b_Ex_act 80 = .ok (.invokevirtual 117, 3) := by decide +kernel
theorem d_Ex_act_83 : decode b_Ex_act 83 = .ok (.aload_n 1, 1) := by decide +kernel
theorem d_Ex_act_84 : decode b_Ex_act 84 = .ok (.iconst 1, 1) := by decide +kernel
theorem d_Ex_act_85 : decode b_Ex_act 85 = .ok (.invokevirtual 121, 3) := by decide +kernel
theorem d_Ex_act_88 : decode b_Ex_act 88 = .ok (.invokevirtual 140, 3) := by decide +kernel
theorem d_Ex_act_91 : decode b_Ex_act 91 = .ok (.iconst 0, 1) := by decide +kernel
theorem d_Ex_act_92 : decode b_Ex_act 92 = .ok (.ireturn, 1) := by decide +kernel
theorem d_Ex_act_93 : decode b_Ex_act 93 = .ok (.aload_n 0, 1) := by decide +kernel
theorem d_Ex_act_94 : decode b_Ex_act 94 = .ok (.getfield 19, 3) := by decide +kernel
theorem d_Ex_act_97 : decode b_Ex_act 97 = .ok (.aload_n 1, 1) := by decide +kernel
theorem d_Ex_act_98 : decode b_Ex_act 98 = .ok (.getfield 116, 3) := by decide +kernel
theorem d_Ex_act_101 : decode b_Ex_act 101 = .ok (.aload_n 1, 1) := by decide +kernel
theorem d_Ex_act_102 : decode b_Ex_act 102 = .ok (.iconst 1, 1) := by decide +kernel
theorem d_Ex_act_103 : decode b_Ex_act 103 = .ok (.invokevirtual 117, 3) := by decide +kernel
theorem d_Ex_act_106 : decode b_Ex_act 106 = .ok (.aload_n 1, 1) := by decide +kernel
theorem d_Ex_act_107 : decode b_Ex_act 107 = .ok (.iconst 1, 1) := by decide +kernel
theorem d_Ex_act_108 : decode b_Ex_act 108 = .ok (.invokevirtual 121, 3) := by decide +kernel
theorem d_Ex_act_111 : decode b_Ex_act 111 = .ok (.invokevirtual 146, 3) := by decide +kernel
theorem d_Ex_act_114 : decode b_Ex_act 114 = .ok (.iconst 0, 1) := by decide +kernel
theorem d_Ex_act_115 : decode b_Ex_act 115 = .ok (.ireturn, 1) := by decide +kernel
theorem d_Ex_act_116 : decode b_Ex_act 116 = .ok (.aload_n 0, 1) := by decide +kernel
theorem d_Ex_act_117 : decode b_Ex_act 117 = .ok (.getfield 15, 3) := by decide +kernel
theorem d_Ex_act_120 : decode b_Ex_act 120 = .ok (.aload_n 1, 1) := by decide +kernel
theorem d_Ex_act_121 : decode b_Ex_act 121 = .ok (.iconst 1, 1) := by decide +kernel
theorem d_Ex_act_122 : decode b_Ex_act 122 = .ok (.invokevirtual 149, 3) := by decide +kernel
theorem d_Ex_act_125 : decode b_Ex_act 125 = .ok (.invokevirtual 153, 3) := by decide +kernel
theorem d_Ex_act_128 : decode b_Ex_act 128 = .ok (.iconst 0, 1) := by decide +kernel
theorem d_Ex_act_129 : decode b_Ex_act 129 = .ok (.ireturn, 1) := by decide +kernel
theorem d_Ex_act_130 : decode b_Ex_act 130 = .ok (.aload_n 0, 1) := by decide +kernel
theorem d_Ex_act_131 : decode b_Ex_act 131 = .ok (.aload_n 1, 1) := by decide +kernel
theorem d_Ex_act_132 : decode b_Ex_act 132 = .ok (.invokevirtual 158, 3) := by decide +kernel
theorem d_Ex_act_135 : decode b_Ex_act 135 = .ok (.ireturn, 1) := by decide +kernel
theorem d_Ex_act_136 : decode b_Ex_act 136 = .ok (.aload_n 0, 1) := by decide +kernel
theorem d_Ex_act_137 : decode b_Ex_act 137 = .ok (.getfield 9, 3) := by decide +kernel
theorem d_Ex_act_140 : decode b_Ex_act 140 = .ok (.invokevirtual 162, 3) := by decide +kernel
theorem d_Ex_act_143 : decode b_Ex_act 143 = .ok (.iconst 0, 1) := by decide +kernel
theorem d_Ex_act_144 : decode b_Ex_act 144 = .ok (.ireturn, 1) := by decide +kernel
theorem d_Ex_act_145 : decode b_Ex_act 145 = .ok (.aload_n 0, 1) := by decide +kernel
theorem d_Ex_act_146 : decode b_Ex_act 146 = .ok (.getfield 26, 3) := by decide +kernel
theorem d_Ex_act_149 : decode b_Ex_act 149 = .ok (.aload_n 1, 1) := by decide +kernel
theorem d_Ex_act_150 : decode b_Ex_act 150 = .ok (.getfield 116, 3) := by decide +kernel
theorem d_Ex_act_153 : decode b_Ex_act 153 = .ok (.aload_n 1, 1) := by decide +kernel
theorem d_Ex_act_154 : decode b_Ex_act 154 = .ok (.iconst 1, 1) := by decide +kernel
theorem d_Ex_act_155 : decode b_Ex_act 155 = .ok (.invokevirtual 117, 3) := by decide +kernel
theorem d_Ex_act_158 : decode b_Ex_act 158 = .ok (.aload_n 1, 1) := by decide +kernel
theorem d_Ex_act_159 : decode b_Ex_act 159 = .ok (.iconst 1, 1) := by decide +kernel
theorem d_Ex_act_160 : decode b_Ex_act 160 = .ok (.invokevirtual 121, 3) := by decide +kernel
theorem d_Ex_act_163 : decode b_Ex_act 163 = .ok (.aload_n 0, 1) := by decide +kernel
theorem d_Ex_act_164 : decode b_Ex_act 164 = .ok (.getfield 35, 3) := by decide +kernel
theorem d_Ex_act_167 : decode b_Ex_act 167 = .ok (.invokevirtual 165, 3) := by decide +kernel
theorem d_Ex_act_170 : decode b_Ex_act 170 = .ok (.ireturn, 1) := by decide +kernel
theorem d_Ex_act_171 : decode b_Ex_act 171 = .ok (.iconst 0, 1) := by decide +kernel
theorem d_Ex_act_172 : decode b_Ex_act 172 = .ok (.ireturn, 1) := by decide +kernel
theorem q_Ex_act : aw_q1 y_Ex_act b_Ex_act 3 (some .int) 2 := ⟨k_651, k_77, ⟨by decide, by decide, by decide +kernel⟩, by decide⟩
def y_Ex_makeText : MethodName := ⟨"RescanDesk$Expander", "makeText", "(LRescanDesk$Call;LRescanDesk$BuiltIn;)V"⟩
abbrev b_Ex_makeText : ByteArray := prog_7_method_8_code
theorem d_Ex_makeText_0 : decode b_Ex_makeText 0 = .ok (.getstatic 124, 3) := by decide +kernel
theorem d_Ex_makeText_3 : decode b_Ex_makeText 3 = .ok (.aload_n 2, 1) := by decide +kernel
theorem d_Ex_makeText_4 : decode b_Ex_makeText 4 = .ok (.invokevirtual 130, 3) := by decide +kernel
theorem d_Ex_makeText_7 : decode b_Ex_makeText 7 = .ok (.iaload, 1) := by decide +kernel
theorem d_Ex_makeText_8 : decode b_Ex_makeText 8 = .ok (.tableswitch 168 9 16 #[48, 70, 83, 100, 116, 124, 140, 150], 48) := by decide +kernel
theorem d_Ex_makeText_56 : decode b_Ex_makeText 56 = .ok (.aload_n 0, 1) := by decide +kernel
theorem d_Ex_makeText_57 : decode b_Ex_makeText 57 = .ok (.aload_n 1, 1) := by decide +kernel
theorem d_Ex_makeText_58 : decode b_Ex_makeText 58 = .ok (.aload_n 0, 1) := by decide +kernel
theorem d_Ex_makeText_59 : decode b_Ex_makeText 59 = .ok (.aload_n 1, 1) := by decide +kernel
theorem d_Ex_makeText_60 : decode b_Ex_makeText 60 = .ok (.invokevirtual 169, 3) := by decide +kernel
theorem d_Ex_makeText_63 : decode b_Ex_makeText 63 = .ok (.iconst (-1), 1) := by decide +kernel
theorem d_Ex_makeText_64 : decode b_Ex_makeText 64 = .ok (.if_icmp .ne 7, 3) := by decide +kernel
theorem d_Ex_makeText_67 : decode b_Ex_makeText 67 = .ok (.iconst 3, 1) := by decide +kernel
theorem d_Ex_makeText_68 : decode b_Ex_makeText 68 = .ok (.goto 4, 3) := by decide +kernel
theorem d_Ex_makeText_71 : decode b_Ex_makeText 71 = .ok (.iconst 2, 1) := by decide +kernel
theorem d_Ex_makeText_72 : decode b_Ex_makeText 72 = .ok (.invokevirtual 101, 3) := by decide +kernel
theorem d_Ex_makeText_75 : decode b_Ex_makeText 75 = .ok (.goto 101, 3) := by decide +kernel
theorem d_Ex_makeText_78 : decode b_Ex_makeText 78 = .ok (.aload_n 0, 1) := by decide +kernel
theorem d_Ex_makeText_79 : decode b_Ex_makeText 79 = .ok (.aload_n 1, 1) := by decide +kernel
theorem d_Ex_makeText_80 : decode b_Ex_makeText 80 = .ok (.aload_n 0, 1) := by decide +kernel
theorem d_Ex_makeText_81 : decode b_Ex_makeText 81 = .ok (.aload_n 1, 1) := by decide +kernel
theorem d_Ex_makeText_82 : decode b_Ex_makeText 82 = .ok (.invokevirtual 172, 3) := by decide +kernel
theorem d_Ex_makeText_85 : decode b_Ex_makeText 85 = .ok (.invokevirtual 101, 3) := by decide +kernel
theorem d_Ex_makeText_88 : decode b_Ex_makeText 88 = .ok (.goto 88, 3) := by decide +kernel
theorem d_Ex_makeText_91 : decode b_Ex_makeText 91 = .ok (.aload_n 0, 1) := by decide +kernel
theorem d_Ex_makeText_92 : decode b_Ex_makeText 92 = .ok (.getfield 35, 3) := by decide +kernel
theorem d_Ex_makeText_95 : decode b_Ex_makeText 95 = .ok (.aload_n 1, 1) := by decide +kernel
theorem d_Ex_makeText_96 : decode b_Ex_makeText 96 = .ok (.iconst 1, 1) := by decide +kernel
theorem d_Ex_makeText_97 : decode b_Ex_makeText 97 = .ok (.invokevirtual 149, 3) := by decide +kernel
theorem d_Ex_makeText_100 : decode b_Ex_makeText 100 = .ok (.lconst 1, 1) := by decide +kernel
theorem d_Ex_makeText_101 : decode b_Ex_makeText 101 = .ok (.ladd, 1) := by decide +kernel
theorem d_Ex_makeText_102 : decode b_Ex_makeText 102 = .ok (.invokevirtual 108, 3) := by decide +kernel
theorem d_Ex_makeText_105 : decode b_Ex_makeText 105 = .ok (.goto 71, 3) := by decide +kernel
theorem d_Ex_makeText_108 : decode b_Ex_makeText 108 = .ok (.aload_n 0, 1) := by decide +kernel
theorem d_Ex_makeText_109 : decode b_Ex_makeText 109 = .ok (.getfield 35, 3) := by decide +kernel
theorem d_Ex_makeText_112 : decode b_Ex_makeText 112 = .ok (.aload_n 1, 1) := by decide +kernel
theorem d_Ex_makeText_113 : decode b_Ex_makeText 113 = .ok (.iconst 1, 1) := by decide +kernel
theorem d_Ex_makeText_114 : decode b_Ex_makeText 114 = .ok (.invokevirtual 175, 3) := by decide +kernel
theorem d_Ex_makeText_117 : decode b_Ex_makeText 117 = .ok (.i2l, 1) := by decide +kernel
theorem d_Ex_makeText_118 : decode b_Ex_makeText 118 = .ok (.invokevirtual 108, 3) := by decide +kernel
theorem d_Ex_makeText_121 : decode b_Ex_makeText 121 = .ok (.goto 55, 3) := by decide +kernel
theorem d_Ex_makeText_124 : decode b_Ex_makeText 124 = .ok (.aload_n 0, 1) := by decide +kernel
theorem d_Ex_makeText_125 : decode b_Ex_makeText 125 = .ok (.aload_n 1, 1) := by decide +kernel
theorem d_Ex_makeText_126 : decode b_Ex_makeText 126 = .ok (.invokevirtual 177, 3) := by decide +kernel
theorem d_Ex_makeText_129 : decode b_Ex_makeText 129 = .ok (.goto 47, 3) := by decide +kernel
theorem d_Ex_makeText_132 : decode b_Ex_makeText 132 = .ok (.aload_n 0, 1) := by decide +kernel
theorem d_Ex_makeText_133 : decode b_Ex_makeText 133 = .ok (.getfield 35, 3) := by decide +kernel
theorem d_Ex_makeText_136 : decode b_Ex_makeText 136 = .ok (.aload_n 0, 1) := by decide +kernel
theorem d_Ex_makeText_137 : decode b_Ex_makeText 137 = .ok (.aload_n 1, 1) := by decide +kernel
theorem d_Ex_makeText_138 : decode b_Ex_makeText 138 = .ok (.invokevirtual 180, 3) := by decide +kernel
theorem d_Ex_makeText_141 : decode b_Ex_makeText 141 = .ok (.i2l, 1) := by decide +kernel
theorem d_Ex_makeText_142 : decode b_Ex_makeText 142 = .ok (.invokevirtual 108, 3) := by decide +kernel
theorem d_Ex_makeText_145 : decode b_Ex_makeText 145 = .ok (.goto 31, 3) := by decide +kernel
theorem d_Ex_makeText_148 : decode b_Ex_makeText 148 = .ok (.aload_n 0, 1) := by decide +kernel
theorem d_Ex_makeText_149 : decode b_Ex_makeText 149 = .ok (.aload_n 1, 1) := by decide +kernel
theorem d_Ex_makeText_150 : decode b_Ex_makeText 150 = .ok (.iconst 2, 1) := by decide +kernel
theorem d_Ex_makeText_151 : decode b_Ex_makeText 151 = .ok (.iconst 1, 1) := by decide +kernel
theorem d_Ex_makeText_152 : decode b_Ex_makeText 152 = .ok (.invokevirtual 112, 3) := by decide +kernel
theorem d_Ex_makeText_155 : decode b_Ex_makeText 155 = .ok (.goto 21, 3) := by decide +kernel
theorem d_Ex_makeText_158 : decode b_Ex_makeText 158 = .ok (.aload_n 0, 1) := by decide +kernel
theorem d_Ex_makeText_159 : decode b_Ex_makeText 159 = .ok (.getfield 35, 3) := by decide +kernel
theorem d_Ex_makeText_162 : decode b_Ex_makeText 162 = .ok (.aload_n 0, 1) := by decide +kernel
theorem d_Ex_makeText_163 : decode b_Ex_makeText 163 = .ok (.getfield 15, 3) := by decide +kernel
theorem d_Ex_makeText_166 : decode b_Ex_makeText 166 = .ok (.getfield 183, 3) := by decide +kernel
theorem d_Ex_makeText_169 : decode b_Ex_makeText 169 = .ok (.i2l, 1) := by decide +kernel
theorem d_Ex_makeText_170 : decode b_Ex_makeText 170 = .ok (.invokevirtual 108, 3) := by decide +kernel
theorem d_Ex_makeText_173 : decode b_Ex_makeText 173 = .ok (.goto 3, 3) := by decide +kernel
theorem d_Ex_makeText_176 : decode b_Ex_makeText 176 = .ok (.return_, 1) := by decide +kernel
theorem q_Ex_makeText : aw_q1 y_Ex_makeText b_Ex_makeText 3 none 2 := ⟨k_774, k_77, ⟨by decide, by decide, by decide +kernel⟩, by decide⟩
def y_Ex_placeOfFirst : MethodName := ⟨"RescanDesk$Expander", "placeOfFirst", "(LRescanDesk$Call;)I"⟩
abbrev b_Ex_placeOfFirst : ByteArray := prog_7_method_9_code
theorem d_Ex_placeOfFirst_0 : decode b_Ex_placeOfFirst 0 = .ok (.aload_n 0, 1) := by decide +kernel
theorem d_Ex_placeOfFirst_1 : decode b_Ex_placeOfFirst 1 = .ok (.getfield 19, 3) := by decide +kernel
theorem d_Ex_placeOfFirst_4 : decode b_Ex_placeOfFirst 4 = .ok (.aload_n 1, 1) := by decide +kernel
theorem d_Ex_placeOfFirst_5 : decode b_Ex_placeOfFirst 5 = .ok (.getfield 116, 3) := by decide +kernel
theorem d_Ex_placeOfFirst_8 : decode b_Ex_placeOfFirst 8 = .ok (.aload_n 1, 1) := by decide +kernel
theorem d_Ex_placeOfFirst_9 : decode b_Ex_placeOfFirst 9 = .ok (.iconst 1, 1) := by decide +kernel
theorem d_Ex_placeOfFirst_10 : decode b_Ex_placeOfFirst 10 = .ok (.invokevirtual 117, 3) := by decide +kernel
theorem d_Ex_placeOfFirst_13 : decode b_Ex_placeOfFirst 13 = .ok (.aload_n 1, 1) := by decide +kernel
theorem d_Ex_placeOfFirst_14 : decode b_Ex_placeOfFirst 14 = .ok (.iconst 1, 1) := by decide +kernel
theorem d_Ex_placeOfFirst_15 : decode b_Ex_placeOfFirst 15 = .ok (.invokevirtual 121, 3) := by decide +kernel
theorem d_Ex_placeOfFirst_18 : decode b_Ex_placeOfFirst 18 = .ok (.invokevirtual 186, 3) := by decide +kernel
theorem d_Ex_placeOfFirst_21 : decode b_Ex_placeOfFirst 21 = .ok (.ireturn, 1) := by decide +kernel
theorem q_Ex_placeOfFirst : aw_q1 y_Ex_placeOfFirst b_Ex_placeOfFirst 2 (some .int) 1 := ⟨k_676, k_77, ⟨by decide, by decide, by decide +kernel⟩, by decide⟩
def y_Ex_define : MethodName := ⟨"RescanDesk$Expander", "define", "(LRescanDesk$Call;Z)I"⟩
abbrev b_Ex_define : ByteArray := prog_7_method_10_code
theorem d_Ex_define_0 : decode b_Ex_define 0 = .ok (.aload_n 1, 1) := by decide +kernel
theorem d_Ex_define_1 : decode b_Ex_define 1 = .ok (.getfield 116, 3) := by decide +kernel
theorem d_Ex_define_4 : decode b_Ex_define 4 = .ok (.aload_n 1, 1) := by decide +kernel
theorem d_Ex_define_5 : decode b_Ex_define 5 = .ok (.iconst 1, 1) := by decide +kernel
theorem d_Ex_define_6 : decode b_Ex_define 6 = .ok (.invokevirtual 117, 3) := by decide +kernel
theorem d_Ex_define_9 : decode b_Ex_define 9 = .ok (.aload_n 1, 1) := by decide +kernel
theorem d_Ex_define_10 : decode b_Ex_define 10 = .ok (.iconst 1, 1) := by decide +kernel
theorem d_Ex_define_11 : decode b_Ex_define 11 = .ok (.invokevirtual 121, 3) := by decide +kernel
theorem d_Ex_define_14 : decode b_Ex_define 14 = .ok (.invokestatic 190, 3) := by decide +kernel
theorem d_Ex_define_17 : decode b_Ex_define 17 = .ok (.ifCond .ne 5, 3) := by decide +kernel
theorem d_Ex_define_20 : decode b_Ex_define 20 = .ok (.iconst 0, 1) := by decide +kernel
theorem d_Ex_define_21 : decode b_Ex_define 21 = .ok (.ireturn, 1) := by decide +kernel
theorem d_Ex_define_22 : decode b_Ex_define 22 = .ok (.aload_n 1, 1) := by decide +kernel
theorem d_Ex_define_23 : decode b_Ex_define 23 = .ok (.iconst 1, 1) := by decide +kernel
theorem d_Ex_define_24 : decode b_Ex_define 24 = .ok (.invokevirtual 175, 3) := by decide +kernel
theorem d_Ex_define_27 : decode b_Ex_define 27 = .ok (.bipush 12, 2) := by decide +kernel
theorem d_Ex_define_29 : decode b_Ex_define 29 = .ok (.if_icmp .gt 13, 3) := by decide +kernel
theorem d_Ex_define_32 : decode b_Ex_define 32 = .ok (.aload_n 1, 1) := by decide +kernel
theorem d_Ex_define_33 : decode b_Ex_define 33 = .ok (.iconst 2, 1) := by decide +kernel
theorem d_Ex_define_34 : decode b_Ex_define 34 = .ok (.invokevirtual 175, 3) := by decide +kernel
theorem d_Ex_define_37 : decode b_Ex_define 37 = .ok (.bipush 100, 2) := by decide +kernel
theorem d_Ex_define_39 : decode b_Ex_define 39 = .ok (.if_icmp .le 5, 3) := by decide +kernel
theorem d_Ex_define_42 : decode b_Ex_define 42 = .ok (.iconst 2, 1) := by decide +kernel
theorem d_Ex_define_43 : decode b_Ex_define 43 = .ok (.ireturn, 1) := by decide +kernel
theorem d_Ex_define_44 : decode b_Ex_define 44 = .ok (.iload_n 2, 1) := by decide +kernel
theorem d_Ex_define_45 : decode b_Ex_define 45 = .ok (.ifCond .eq 7, 3) := by decide +kernel
theorem d_Ex_define_48 : decode b_Ex_define 48 = .ok (.iconst (-1), 1) := by decide +kernel
theorem d_Ex_define_49 : decode b_Ex_define 49 = .ok (.goto 8, 3) := by decide +kernel
theorem d_Ex_define_52 : decode b_Ex_define 52 = .ok (.aload_n 0, 1) := by decide +kernel
theorem d_Ex_define_53 : decode b_Ex_define 53 = .ok (.aload_n 1, 1) := by decide +kernel
theorem d_Ex_define_54 : decode b_Ex_define 54 = .ok (.invokevirtual 169, 3) := by decide +kernel
theorem d_Ex_define_57 : decode b_Ex_define 57 = .ok (.istore_n 3, 1) := by decide +kernel
theorem d_Ex_define_58 : decode b_Ex_define 58 = .ok (.iload_n 3, 1) := by decide +kernel
theorem d_Ex_define_59 : decode b_Ex_define 59 = .ok (.iconst (-1), 1) := by decide +kernel
theorem d_Ex_define_60 : decode b_Ex_define 60 = .ok (.if_icmp .ne 27, 3) := by decide +kernel
theorem d_Ex_define_63 : decode b_Ex_define 63 = .ok (.aload_n 0, 1) := by decide +kernel
theorem d_Ex_define_64 : decode b_Ex_define 64 = .ok (.getfield 19, 3) := by decide +kernel
theorem d_Ex_define_67 : decode b_Ex_define 67 = .ok (.aload_n 1, 1) := by decide +kernel
theorem d_Ex_define_68 : decode b_Ex_define 68 = .ok (.getfield 116, 3) := by decide +kernel
theorem d_Ex_define_71 : decode b_Ex_define 71 = .ok (.aload_n 1, 1) := by decide +kernel
theorem d_Ex_define_72 : decode b_Ex_define 72 = .ok (.iconst 1, 1) := by decide +kernel
theorem d_Ex_define_73 : decode b_Ex_define 73 = .ok (.invokevirtual 117, 3) := by decide +kernel
theorem d_Ex_define_76 : decode b_Ex_define 76 = .ok (.aload_n 1, 1) := by decide +kernel
theorem d_Ex_define_77 : decode b_Ex_define 77 = .ok (.iconst 1, 1) := by decide +kernel
theorem d_Ex_define_78 : decode b_Ex_define 78 = .ok (.invokevirtual 121, 3) := by decide +kernel
theorem d_Ex_define_81 : decode b_Ex_define 81 = .ok (.invokevirtual 193, 3) := by decide +kernel
theorem d_Ex_define_84 : decode b_Ex_define 84 = .ok (.goto 12, 3) := by decide +kernel
theorem d_Ex_define_87 : decode b_Ex_define 87 = .ok (.aload_n 0, 1) := by decide +kernel
theorem d_Ex_define_88 : decode b_Ex_define 88 = .ok (.getfield 19, 3) := by decide +kernel
theorem d_Ex_define_91 : decode b_Ex_define 91 = .ok (.getfield 197, 3) := by decide +kernel
theorem d_Ex_define_94 : decode b_Ex_define 94 = .ok (.iload_n 3, 1) := by decide +kernel
theorem d_Ex_define_95 : decode b_Ex_define 95 = .ok (.aaload, 1) := by decide +kernel
theorem d_Ex_define_96 : decode b_Ex_define 96 = .ok (.astore 4, 2) := by decide +kernel
theorem d_Ex_define_98 : decode b_Ex_define 98 = .ok (.aload 4, 2) := by decide +kernel
theorem d_Ex_define_100 : decode b_Ex_define 100 = .ok (.ifnonnull 5, 3) := by decide +kernel
theorem d_Ex_define_103 : decode b_Ex_define 103 = .ok (.iconst 2, 1) := by decide +kernel
theorem d_Ex_define_104 : decode b_Ex_define 104 = .ok (.ireturn, 1) := by decide +kernel
theorem d_Ex_define_105 : decode b_Ex_define 105 = .ok (.aload 4, 2) := by decide +kernel
theorem d_Ex_define_107 : decode b_Ex_define 107 = .ok (.aload_n 1, 1) := by decide +kernel
theorem d_Ex_define_108 : decode b_Ex_define 108 = .ok (.getfield 116, 3) := by decide +kernel
theorem d_Ex_define_111 : decode b_Ex_define 111 = .ok (.aload_n 1, 1) := by decide +kernel
theorem d_Ex_define_112 : decode b_Ex_define 112 = .ok (.iconst 2, 1) := by decide +kernel
theorem d_Ex_define_113 : decode b_Ex_define 113 = .ok (.invokevirtual 117, 3) := by decide +kernel
theorem d_Ex_define_116 : decode b_Ex_define 116 = .ok (.aload_n 1, 1) := by decide +kernel
theorem d_Ex_define_117 : decode b_Ex_define 117 = .ok (.iconst 2, 1) := by decide +kernel
theorem d_Ex_define_118 : decode b_Ex_define 118 = .ok (.invokevirtual 121, 3) := by decide +kernel
theorem d_Ex_define_121 : decode b_Ex_define 121 = .ok (.invokevirtual 201, 3) := by decide +kernel
theorem d_Ex_define_124 : decode b_Ex_define 124 = .ok (.iconst 0, 1) := by decide +kernel
theorem d_Ex_define_125 : decode b_Ex_define 125 = .ok (.ireturn, 1) := by decide +kernel
theorem q_Ex_define : aw_q1 y_Ex_define b_Ex_define 5 (some .int) 2 := ⟨k_663, k_77, ⟨by decide, by decide, by decide +kernel⟩, by decide⟩
def y_Ex_undivert : MethodName := ⟨"RescanDesk$Expander", "undivert", "(LRescanDesk$Call;)I"⟩
abbrev b_Ex_undivert : ByteArray := prog_7_method_11_code
theorem d_Ex_undivert_0 : decode b_Ex_undivert 0 = .ok (.aload_n 1, 1) := by decide +kernel
theorem d_Ex_undivert_1 : decode b_Ex_undivert 1 = .ok (.getfield 105, 3) := by decide +kernel
theorem d_Ex_undivert_4 : decode b_Ex_undivert 4 = .ok (.ifCond .ne 26, 3) := by decide +kernel
theorem d_Ex_undivert_7 : decode b_Ex_undivert 7 = .ok (.aload_n 0, 1) := by decide +kernel
theorem d_Ex_undivert_8 : decode b_Ex_undivert 8 = .ok (.getfield 15, 3) := by decide +kernel
theorem d_Ex_undivert_11 : decode b_Ex_undivert 11 = .ok (.aload_n 0, 1) := by decide +kernel
theorem d_Ex_undivert_12 : decode b_Ex_undivert 12 = .ok (.getfield 15, 3) := by decide +kernel
theorem d_Ex_undivert_15 : decode b_Ex_undivert 15 = .ok (.getfield 183, 3) := by decide +kernel
theorem d_Ex_undivert_18 : decode b_Ex_undivert 18 = .ok (.invokevirtual 204, 3) := by decide +kernel
theorem d_Ex_undivert_21 : decode b_Ex_undivert 21 = .ok (.ifCond .eq 7, 3) := by decide +kernel
theorem d_Ex_undivert_24 : decode b_Ex_undivert 24 = .ok (.iconst 0, 1) := by decide +kernel
theorem d_Ex_undivert_25 : decode b_Ex_undivert 25 = .ok (.goto 4, 3) := by decide +kernel
theorem d_Ex_undivert_28 : decode b_Ex_undivert 28 = .ok (.iconst 2, 1) := by decide +kernel
theorem d_Ex_undivert_29 : decode b_Ex_undivert 29 = .ok (.ireturn, 1) := by decide +kernel
theorem d_Ex_undivert_30 : decode b_Ex_undivert 30 = .ok (.aload_n 1, 1) := by decide +kernel
theorem d_Ex_undivert_31 : decode b_Ex_undivert 31 = .ok (.iconst 1, 1) := by decide +kernel
theorem d_Ex_undivert_32 : decode b_Ex_undivert 32 = .ok (.invokevirtual 149, 3) := by decide +kernel
theorem d_Ex_undivert_35 : decode b_Ex_undivert 35 = .ok (.lstore_n 2, 1) := by decide +kernel
theorem d_Ex_undivert_36 : decode b_Ex_undivert 36 = .ok (.lload_n 2, 1) := by decide +kernel
theorem d_Ex_undivert_37 : decode b_Ex_undivert 37 = .ok (.lconst 1, 1) := by decide +kernel
theorem d_Ex_undivert_38 : decode b_Ex_undivert 38 = .ok (.lcmp, 1) := by decide +kernel
theorem d_Ex_undivert_39 : decode b_Ex_undivert 39 = .ok (.ifCond .lt 11, 3) := by decide +kernel
theorem d_Ex_undivert_42 : decode b_Ex_undivert 42 = .ok (.lload_n 2, 1) := by decide +kernel
theorem d_Ex_undivert_43 : decode b_Ex_undivert 43 = .ok (.ldc2_w 208, 3) := by decide +kernel
theorem d_Ex_undivert_46 : decode b_Ex_undivert 46 = .ok (.lcmp, 1) := by decide +kernel
theorem d_Ex_undivert_47 : decode b_Ex_undivert 47 = .ok (.ifCond .lt 5, 3) := by decide +kernel
theorem d_Ex_undivert_50 : decode b_Ex_undivert 50 = .ok (.iconst 0, 1) := by decide +kernel
theorem d_Ex_undivert_51 : decode b_Ex_undivert 51 = .ok (.ireturn, 1) := by decide +kernel
theorem d_Ex_undivert_52 : decode b_Ex_undivert 52 = .ok (.aload_n 0, 1) := by decide +kernel
theorem d_Ex_undivert_53 : decode b_Ex_undivert 53 = .ok (.getfield 15, 3) := by decide +kernel
theorem d_Ex_undivert_56 : decode b_Ex_undivert 56 = .ok (.lload_n 2, 1) := by decide +kernel
theorem d_Ex_undivert_57 : decode b_Ex_undivert 57 = .ok (.l2i, 1) := by decide +kernel
theorem d_Ex_undivert_58 : decode b_Ex_undivert 58 = .ok (.aload_n 0, 1) := by decide +kernel
theorem d_Ex_undivert_59 : decode b_Ex_undivert 59 = .ok (.getfield 15, 3) := by decide +kernel
theorem d_Ex_undivert_62 : decode b_Ex_undivert 62 = .ok (.getfield 183, 3) := by decide +kernel
theorem d_Ex_undivert_65 : decode b_Ex_undivert 65 = .ok (.invokevirtual 210, 3) := by decide +kernel
theorem d_Ex_undivert_68 : decode b_Ex_undivert 68 = .ok (.ifCond .eq 7, 3) := by decide +kernel
theorem d_Ex_undivert_71 : decode b_Ex_undivert 71 = .ok (.iconst 0, 1) := by decide +kernel
theorem d_Ex_undivert_72 : decode b_Ex_undivert 72 = .ok (.goto 4, 3) := by decide +kernel
theorem d_Ex_undivert_75 : decode b_Ex_undivert 75 = .ok (.iconst 2, 1) := by decide +kernel
theorem d_Ex_undivert_76 : decode b_Ex_undivert 76 = .ok (.ireturn, 1) := by decide +kernel
theorem q_Ex_undivert : aw_q1 y_Ex_undivert b_Ex_undivert 4 (some .int) 1 := ⟨k_715, k_77, ⟨by decide, by decide, by decide +kernel⟩, by decide⟩
def y_Ex_chosen : MethodName := ⟨"RescanDesk$Expander", "chosen", "(LRescanDesk$Call;)I"⟩
abbrev b_Ex_chosen : ByteArray := prog_7_method_12_code
theorem d_Ex_chosen_0 : decode b_Ex_chosen 0 = .ok (.iconst 1, 1) := by decide +kernel
theorem d_Ex_chosen_1 : decode b_Ex_chosen 1 = .ok (.istore_n 2, 1) := by decide +kernel
theorem d_Ex_chosen_2 : decode b_Ex_chosen 2 = .ok (.iload_n 2, 1) := by decide +kernel
theorem d_Ex_chosen_3 : decode b_Ex_chosen 3 = .ok (.bipush 9, 2) := by decide +kernel
theorem d_Ex_chosen_5 : decode b_Ex_chosen 5 = .ok (.if_icmp .ge 36, 3) := by decide +kernel
theorem d_Ex_chosen_8 : decode b_Ex_chosen 8 = .ok (.aload_n 1, 1) := by decide +kernel
theorem d_Ex_chosen_9 : decode b_Ex_chosen 9 = .ok (.iload_n 2, 1) := by decide +kernel
theorem d_Ex_chosen_10 : decode b_Ex_chosen 10 = .ok (.iload_n 2, 1) := by decide +kernel
theorem d_Ex_chosen_11 : decode b_Ex_chosen 11 = .ok (.iconst 1, 1) := by decide +kernel
theorem d_Ex_chosen_12 : decode b_Ex_chosen 12 = .ok (.iadd, 1) := by decide +kernel
theorem d_Ex_chosen_13 : decode b_Ex_chosen 13 = .ok (.invokevirtual 214, 3) := by decide +kernel
theorem d_Ex_chosen_16 : decode b_Ex_chosen 16 = .ok (.ifCond .ne 25, 3) := by decide +kernel
theorem d_Ex_chosen_19 : decode b_Ex_chosen 19 = .ok (.aload_n 1, 1) := by decide +kernel
theorem d_Ex_chosen_20 : decode b_Ex_chosen 20 = .ok (.getfield 105, 3) := by decide +kernel
theorem d_Ex_chosen_23 : decode b_Ex_chosen 23 = .ok (.iload_n 2, 1) := by decide +kernel
theorem d_Ex_chosen_24 : decode b_Ex_chosen 24 = .ok (.isub, 1) := by decide +kernel
theorem d_Ex_chosen_25 : decode b_Ex_chosen 25 = .ok (.iconst 1, 1) := by decide +kernel
theorem d_Ex_chosen_26 : decode b_Ex_chosen 26 = .ok (.iadd, 1) := by decide +kernel
theorem d_Ex_chosen_27 : decode b_Ex_chosen 27 = .ok (.iconst 5, 1) := by decide +kernel
theorem d_Ex_chosen_28 : decode b_Ex_chosen 28 = .ok (.if_icmp .ge 7, 3) := by decide +kernel
theorem d_Ex_chosen_31 : decode b_Ex_chosen 31 = .ok (.iload_n 2, 1) := by decide +kernel
theorem d_Ex_chosen_32 : decode b_Ex_chosen 32 = .ok (.iconst 3, 1) := by decide +kernel
theorem d_Ex_chosen_33 : decode b_Ex_chosen 33 = .ok (.iadd, 1) := by decide +kernel
theorem d_Ex_chosen_34 : decode b_Ex_chosen 34 = .ok (.ireturn, 1) := by decide +kernel
theorem d_Ex_chosen_35 : decode b_Ex_chosen 35 = .ok (.iinc 2 3, 3) := by decide +kernel
theorem d_Ex_chosen_38 : decode b_Ex_chosen 38 = .ok (.goto (-36), 3) := by decide +kernel
theorem d_Ex_chosen_41 : decode b_Ex_chosen 41 = .ok (.iload_n 2, 1) := by decide +kernel
theorem d_Ex_chosen_42 : decode b_Ex_chosen 42 = .ok (.iconst 2, 1) := by decide +kernel
theorem d_Ex_chosen_43 : decode b_Ex_chosen 43 = .ok (.iadd, 1) := by decide +kernel
theorem d_Ex_chosen_44 : decode b_Ex_chosen 44 = .ok (.ireturn, 1) := by decide +kernel
theorem q_Ex_chosen : aw_q1 y_Ex_chosen b_Ex_chosen 3 (some .int) 1 := ⟨k_778, k_77, ⟨by decide, by decide, by decide +kernel⟩, by decide⟩
def y_Ex_makePart : MethodName := ⟨"RescanDesk$Expander", "makePart", "(LRescanDesk$Call;)V"⟩
abbrev b_Ex_makePart : ByteArray := prog_7_method_13_code
theorem d_Ex_makePart_0 : decode b_Ex_makePart 0 = .ok (.aload_n 1, 1) := by decide +kernel
theorem d_Ex_makePart_1 : decode b_Ex_makePart 1 = .ok (.iconst 2, 1) := by decide +kernel
theorem d_Ex_makePart_2 : decode b_Ex_makePart 2 = .ok (.invokevirtual 149, 3) := by decide +kernel
theorem d_Ex_makePart_5 : decode b_Ex_makePart 5 = .ok (.lstore_n 2, 1) := by decide +kernel
theorem d_Ex_makePart_6 : decode b_Ex_makePart 6 = .ok (.aload_n 1, 1) := by decide +kernel
theorem d_Ex_makePart_7 : decode b_Ex_makePart 7 = .ok (.iconst 1, 1) := by decide +kernel
theorem d_Ex_makePart_8 : decode b_Ex_makePart 8 = .ok (.invokevirtual 175, 3) := by decide +kernel
theorem d_Ex_makePart_11 : decode b_Ex_makePart 11 = .ok (.istore 4, 2) := by decide +kernel
theorem d_Ex_makePart_13 : decode b_Ex_makePart 13 = .ok (.lload_n 2, 1) := by decide +kernel
theorem d_Ex_makePart_14 : decode b_Ex_makePart 14 = .ok (.lconst 0, 1) := by decide +kernel
theorem d_Ex_makePart_15 : decode b_Ex_makePart 15 = .ok (.lcmp, 1) := by decide +kernel
theorem d_Ex_makePart_16 : decode b_Ex_makePart 16 = .ok (.ifCond .lt 11, 3) := by decide +kernel
theorem d_Ex_makePart_19 : decode b_Ex_makePart 19 = .ok (.lload_n 2, 1) := by decide +kernel
theorem d_Ex_makePart_20 : decode b_Ex_makePart 20 = .ok (.iload 4, 2) := by decide +kernel
theorem d_Ex_makePart_22 : decode b_Ex_makePart 22 = .ok (.i2l, 1) := by decide +kernel
theorem d_Ex_makePart_23 : decode b_Ex_makePart 23 = .ok (.lcmp, 1) := by decide +kernel
theorem d_Ex_makePart_24 : decode b_Ex_makePart 24 = .ok (.ifCond .lt 4, 3) := by decide +kernel
theorem d_Ex_makePart_27 : decode b_Ex_makePart 27 = .ok (.return_, 1) := by decide +kernel
theorem d_Ex_makePart_28 : decode b_Ex_makePart 28 = .ok (.iload 4, 2) := by decide +kernel
theorem d_Ex_makePart_30 : decode b_Ex_makePart 30 = .ok (.i2l, 1) := by decide +kernel
theorem d_Ex_makePart_31 : decode b_Ex_makePart 31 = .ok (.lload_n 2, 1) := by decide +kernel
theorem d_Ex_makePart_32 : decode b_Ex_makePart 32 = .ok (.lsub, 1) := by decide +kernel
theorem d_Ex_makePart_33 : decode b_Ex_makePart 33 = .ok (.lstore 5, 2) := by decide +kernel
theorem d_Ex_makePart_35 : decode b_Ex_makePart 35 = .ok (.aload_n 1, 1) := by decide +kernel
theorem d_Ex_makePart_36 : decode b_Ex_makePart 36 = .ok (.getfield 105, 3) := by decide +kernel
theorem d_Ex_makePart_39 : decode b_Ex_makePart 39 = .ok (.iconst 3, 1) := by decide +kernel
theorem d_Ex_makePart_40 : decode b_Ex_makePart 40 = .ok (.if_icmp .lt 15, 3) := by decide +kernel
theorem d_Ex_makePart_43 : decode b_Ex_makePart 43 = .ok (.lload 5, 2) := by decide +kernel
theorem d_Ex_makePart_45 : decode b_Ex_makePart 45 = .ok (.aload_n 1, 1) := by decide +kernel
theorem d_Ex_makePart_46 : decode b_Ex_makePart 46 = .ok (.iconst 3, 1) := by decide +kernel
theorem d_Ex_makePart_47 : decode b_Ex_makePart 47 = .ok (.invokevirtual 149, 3) := by decide +kernel
theorem d_Ex_makePart_50 : decode b_Ex_makePart 50 = .ok (.invokestatic 217, 3) := by decide +kernel
theorem d_Ex_makePart_53 : decode b_Ex_makePart 53 = .ok (.lstore 5, 2) := by decide +kernel
theorem d_Ex_makePart_55 : decode b_Ex_makePart 55 = .ok (.aload_n 1, 1) := by decide +kernel
theorem d_Ex_makePart_56 : decode b_Ex_makePart 56 = .ok (.iconst 1, 1) := by decide +kernel
theorem d_Ex_makePart_57 : decode b_Ex_makePart 57 = .ok (.invokevirtual 117, 3) := by decide +kernel
theorem d_Ex_makePart_60 : decode b_Ex_makePart 60 = .ok (.lload_n 2, 1) := by decide +kernel
theorem d_Ex_makePart_61 : decode b_Ex_makePart 61 = .ok (.l2i, 1) := by decide +kernel
theorem d_Ex_makePart_62 : decode b_Ex_makePart 62 = .ok (.iadd, 1) := by decide +kernel
theorem d_Ex_makePart_63 : decode b_Ex_makePart 63 = .ok (.istore 7, 2) := by decide +kernel
theorem d_Ex_makePart_65 : decode b_Ex_makePart 65 = .ok (.aload_n 0, 1) := by decide +kernel
theorem d_Ex_makePart_66 : decode b_Ex_makePart 66 = .ok (.getfield 35, 3) := by decide +kernel
theorem d_Ex_makePart_69 : decode b_Ex_makePart 69 = .ok (.aload_n 1, 1) := by decide +kernel
theorem d_Ex_makePart_70 : decode b_Ex_makePart 70 = .ok (.getfield 116, 3) := by decide +kernel
theorem d_Ex_makePart_73 : decode b_Ex_makePart 73 = .ok (.iload 7, 2) := by decide +kernel
theorem d_Ex_makePart_75 : decode b_Ex_makePart 75 = .ok (.iload 7, 2) := by decide +kernel
theorem d_Ex_makePart_77 : decode b_Ex_makePart 77 = .ok (.lload 5, 2) := by decide +kernel
theorem d_Ex_makePart_79 : decode b_Ex_makePart 79 = .ok (.lconst 0, 1) := by decide +kernel
theorem d_Ex_makePart_80 : decode b_Ex_makePart 80 = .ok (.invokestatic 223, 3) := by decide +kernel
theorem d_Ex_makePart_83 : decode b_Ex_makePart 83 = .ok (.l2i, 1) := by decide +kernel
theorem d_Ex_makePart_84 : decode b_Ex_makePart 84 = .ok (.iadd, 1) := by decide +kernel
theorem d_Ex_makePart_85 : decode b_Ex_makePart 85 = .ok (.invokevirtual 94, 3) := by decide +kernel
theorem d_Ex_makePart_88 : decode b_Ex_makePart 88 = .ok (.pop, 1) := by decide +kernel
theorem d_Ex_makePart_89 : decode b_Ex_makePart 89 = .ok (.return_, 1) := by decide +kernel
theorem q_Ex_makePart : aw_q1 y_Ex_makePart b_Ex_makePart 8 none 1 := ⟨k_791, k_77, ⟨by decide, by decide, by decide +kernel⟩, by decide⟩
def y_Ex_index : MethodName := ⟨"RescanDesk$Expander", "index", "(LRescanDesk$Call;)I"⟩
abbrev b_Ex_index : ByteArray := prog_7_method_14_code
theorem d_Ex_index_0 : decode b_Ex_index 0 = .ok (.iconst 0, 1) := by decide +kernel
theorem d_Ex_index_1 : decode b_Ex_index 1 = .ok (.istore_n 2, 1) := by decide +kernel
theorem d_Ex_index_2 : decode b_Ex_index 2 = .ok (.iload_n 2, 1) := by decide +kernel
theorem d_Ex_index_3 : decode b_Ex_index 3 = .ok (.aload_n 1, 1) := by decide +kernel
theorem d_Ex_index_4 : decode b_Ex_index 4 = .ok (.iconst 1, 1) := by decide +kernel
theorem d_Ex_index_5 : decode b_Ex_index 5 = .ok (.invokevirtual 175, 3) := by decide +kernel
theorem d_Ex_index_8 : decode b_Ex_index 8 = .ok (.aload_n 1, 1) := by decide +kernel
theorem d_Ex_index_9 : decode b_Ex_index 9 = .ok (.iconst 2, 1) := by decide +kernel
theorem d_Ex_index_10 : decode b_Ex_index 10 = .ok (.invokevirtual 175, 3) := by decide +kernel
theorem d_Ex_index_13 : decode b_Ex_index 13 = .ok (.isub, 1) := by decide +kernel
theorem d_Ex_index_14 : decode b_Ex_index 14 = .ok (.if_icmp .gt 21, 3) := by decide +kernel
theorem d_Ex_index_17 : decode b_Ex_index 17 = .ok (.aload_n 1, 1) := by decide +kernel
theorem d_Ex_index_18 : decode b_Ex_index 18 = .ok (.iconst 2, 1) := by decide +kernel
theorem d_Ex_index_19 : decode b_Ex_index 19 = .ok (.iconst 1, 1) := by decide +kernel
theorem d_Ex_index_20 : decode b_Ex_index 20 = .ok (.iload_n 2, 1) := by decide +kernel
theorem d_Ex_index_21 : decode b_Ex_index 21 = .ok (.invokevirtual 226, 3) := by decide +kernel
theorem d_Ex_index_24 : decode b_Ex_index 24 = .ok (.ifCond .eq 5, 3) := by decide +kernel
theorem d_Ex_index_27 : decode b_Ex_index 27 = .ok (.iload_n 2, 1) := by decide +kernel
theorem d_Ex_index_28 : decode b_Ex_index 28 = .ok (.ireturn, 1) := by decide +kernel
theorem d_Ex_index_29 : decode b_Ex_index 29 = .ok (.iinc 2 1, 3) := by decide +kernel
theorem d_Ex_index_32 : decode b_Ex_index 32 = .ok (.goto (-30), 3) := by decide +kernel
theorem d_Ex_index_35 : decode b_Ex_index 35 = .ok (.iconst (-1), 1) := by decide +kernel
theorem d_Ex_index_36 : decode b_Ex_index 36 = .ok (.ireturn, 1) := by decide +kernel
theorem q_Ex_index : aw_q1 y_Ex_index b_Ex_index 3 (some .int) 1 := ⟨k_801, k_77, ⟨by decide, by decide, by decide +kernel⟩, by decide⟩
def argOf (ar : List (List Nat)) (i : Nat) : List Nat := if 1 ≤ i ∧ i ≤ ar.length then ar.getD (i - 1) [] else []
def hEx (w : Nat → va_E) (G : aw_G) : Prop := w 412 = aObj 8 [rf G 3, rf G 5, rf G 15, rf G 413, rf G 416]
theorem hRdy.keep {G : aw_G} {w w' : Nat → va_E} {a : Nat} {t : Def} {ar : List (List Nat)} {lo hi : Nat} (h : hRdy G w a t ar) (ha : 321 ≤ a ∧ a + 7 ≤ 412) (hf : fr lo hi w w') (h1 : hi ≤ 317 ∨ 412 ≤ lo) : hRdy G w' a t ar := by
  obtain ⟨st, gg, dp, bg, c1, c2, c3, c4⟩ := h
  exact ⟨st, gg, dp, bg, c1.keep hf (by omega), c2, (hf _ (by omega)).trans c3, c4⟩
/-- one argument in a list -/
def lst1 (ar : List (List Nat)) (q : Bool) (first i : Nat) : List Nat := (if first < i then [44] else []) ++ ((if q = true then [96] else []) ++ (argOf ar i ++ (if q = true then [39] else [])))
def lstK (ar : List (List Nat)) (q : Bool) (first : Nat) : Nat → Nat → List Nat
  | 0, _ => []
  | k + 1, i => lst1 ar q first i ++ lstK ar q first k (i + 1)
def lstL (ar : List (List Nat)) (q : Bool) (first : Nat) : List Nat := lstK ar q first (ar.length + 1 - first) first
/-- what stands for a $ and c -/
def parL (t : Def) (ar : List (List Nat)) (c : Nat) : Option (List Nat) :=
  if c = 48 then some t.1 else if isDig c = true then some (argOf ar (c - 48)) else if c = 35 then some (dec (lN ar.length)) else if c = 42 then some (lstL ar false 1) else if c = 64 then some (lstL ar true 1) else none
def bodyL (t : Def) (ar : List (List Nat)) : List Nat → List Nat
  | [] => []
  | [c] => [c]
  | c :: c2 :: r => if c = 36 then (match parL t ar c2 with
    | some L => L ++ bodyL t ar r
    | none => c :: bodyL t ar (c2 :: r)) else c :: bodyL t ar (c2 :: r)
section
variable {G : aw_G} {nx d : Nat} {w : Nat → va_E}
theorem s_Ex_makeArgument {a i : Nat} {t : Def} {ar : List (List Nat)} {s : List Nat} (hnx : 418 ≤ nx) (hd : 2 ≤ d) (ha : 321 ≤ a ∧ a + 7 ≤ 412) (hi : i < 100) (he : hEx w G) (hs : hTx G w 416 601 s) (h : hRdy G w a t ar) : AC G y_Ex_makeArgument b_Ex_makeArgument 3 none d false [rf G 412, rf G a, .int (nI i)] nx w 0 0 (fun r w' nx' => nx' = nx ∧ r = none ∧ hTx G w' 416 601 ((s ++ argOf ar i).take 601) ∧ fr 416 418 w w') := by
  obtain ⟨st, gg, dp, bg, c1, c2, c3, c4, c5, c6⟩ := h
  have c11 := c1.1
  have c1' : w a = aObj 7 [rf G (a + 1), rf G 319, rf G (a + 6), .int (nI ar.length), .int (nI dp), .int (nI (bN bg))] := c11
  have he' : w 412 = aObj 8 [rf G 3, rf G 5, rf G 15, rf G 413, rf G 416] := he
  have hft := c2.ft i
  refine AC.ofW (by decide) (Nat.le_of_ble_eq_true rfl) ?_
  intro E P hP Y X
  have X : aw_X G "RescanDesk$Expander" b_Ex_makeArgument 3 none "makeArgument" _ _ _ _ _ E := X
  refine AW.eql (lv' := [(0, _), (1, _), (2, _)]) (by rfl) ?_
  refine aw_aload_nR (pc := 0) X d_Ex_makeArgument_0 (by rfl) ?_
  refine aw_getO (pc := 1) X _ 4 (by omega) (by (repeat (first | rw [aw_up_eq] | rw [aw_up_ne _ _ (by first | assumption | omega)])) <;> first | assumption | rfl) (by rfl) in_Ex (by decide) k_360 (by rfl) d_Ex_makeArgument_1 ?_
  refine aw_aload_nR (pc := 4) X d_Ex_makeArgument_4 (by rfl) ?_
  refine aw_getNO (pc := 5) X _ 1 (by omega) (by (repeat (first | rw [aw_up_eq] | rw [aw_up_ne _ _ (by first | assumption | omega)])) <;> first | assumption | rfl) (by rfl) in_Ca (by decide) k_282 (by rfl) d_Ex_makeArgument_5 ?_
  refine aw_aload_nR (pc := 8) X d_Ex_makeArgument_8 (by rfl) ?_
  refine aw_iload_n (pc := 9) X d_Ex_makeArgument_9 (by rfl) ?_
  -- invokevirtual 10 lv=0:r,1:r,2:n st=n,r,r,r
  refine aw_callV (pc := 10) X _ (c_Ca_from (d := 0) (by omega) hi c2 c1) q_Ca_from k_627 k_628 k_629 (by omega) c11 (by rfl) d_Ex_makeArgument_10 (by omega) (Nat.le_of_ble_eq_true rfl) ⟨by omega, by omega⟩ (fun h => by cases h) (fun r w2 nx2 hp => ?_)
  obtain ⟨rfl, rfl, rfl⟩ := hp
  refine aw_aload_nR (pc := 13) X d_Ex_makeArgument_13 (by rfl) ?_
  refine aw_iload_n (pc := 14) X d_Ex_makeArgument_14 (by rfl) ?_
  -- invokevirtual 15 lv=0:r,1:r,2:n st=n,r,n,r,r
  refine aw_callV (pc := 15) X _ (c_Ca_to (d := 0) (by omega) hi c2 c1) q_Ca_to k_631 k_632 k_633 (by omega) c11 (by rfl) d_Ex_makeArgument_15 (by omega) (Nat.le_of_ble_eq_true rfl) ⟨by omega, by omega⟩ (fun h => by cases h) (fun r w2 nx2 hp => ?_)
  obtain ⟨rfl, rfl, rfl⟩ := hp
  refine aw_callV (pc := 18) X _ (s_Tx_addPart (d := 1) (a := 416) (m := 601) (q := 319) (l := 400) (f := gg) (by omega) (by omega) (by omega) (by omega) (by omega) hft.1 hft.2 c4 hs c3) q_Tx_addPart k_621 k_547 k_548 (by omega) hs.obj (by rfl) d_Ex_makeArgument_18 (by omega) (Nat.le_of_ble_eq_true rfl) ⟨by omega, by omega⟩ (fun h => by cases h) (fun r w2 nx2 hp => ?_)
  obtain ⟨rfl, rfl, h2, hf2⟩ := hp
  refine aw_pop (pc := 21) X d_Ex_makeArgument_21 (by rfl) ?_
  refine aw_vret Y X rfl d_Ex_makeArgument_22 (by omega) (by omega) (hP _ _ _ ?_)
  -- ret 22 lv=0:r,1:r,2:n st=
  refine ⟨rfl, rfl, ?_, hf2⟩
  have := c6 i
  unfold argL at this
  rw [this] at h2
  exact h2
theorem s_Ex_makeList {a f : Nat} {q : Bool} {t : Def} {ar : List (List Nat)} {s : List Nat} (hnx : 418 ≤ nx) (hd : 3 ≤ d) (ha : 321 ≤ a ∧ a + 7 ≤ 412) (hf1 : 1 ≤ f) (hf9 : f ≤ 2) (he : hEx w G) (hs : hTx G w 416 601 s) (h : hRdy G w a t ar) : AC G y_Ex_makeList b_Ex_makeList 5 none d false [rf G 412, rf G a, .int (nI f), .int (nI (bN q))] nx w 0 0 (fun r w' nx' => nx' = nx ∧ r = none ∧ hTx G w' 416 601 ((s ++ lstL ar q f).take 601) ∧ fr 416 418 w w') := by
  have hbq := bN_lt q
  refine AC.ofW (by decide) (Nat.le_of_ble_eq_true rfl) ?_
  intro E P hP Y X
  have X : aw_X G "RescanDesk$Expander" b_Ex_makeList 5 none "makeList" _ _ _ _ _ E := X
  refine AW.eql (lv' := [(0, _), (1, _), (2, _), (3, _)]) (by rfl) ?_
  have L : ∀ (k i : Nat) (w1 : Nat → va_E) (s1 : List Nat), i + k = max (ar.length + 1) f → 1 ≤ i → i ≤ 20 → hTx G w1 416 601 s1 → fr 416 418 w w1 → (s1 ++ lstK ar q f (ar.length + 1 - i) i).take 601 = (s ++ lstL ar q f).take 601 → AW G E 5 nx 0 0 w1 3 [(4, .int (nI i)), (0, rf G 412), (1, rf G a), (2, .int (nI f)), (3, .int (nI (bN q)))] [] := by
    intro k
    induction k with
    | zero =>
      intro i w1 s1 hik hi1 hi2 h1 hfr hr
      have hh := h.keep ha hfr (by omega)
      obtain ⟨st, gg, dp, bg, c1, c2, c3, c4, c5, c6⟩ := id hh
      have c1' : w1 a = aObj 7 [rf G (a + 1), rf G 319, rf G (a + 6), .int (nI ar.length), .int (nI dp), .int (nI (bN bg))] := c1.1
      have hn9 := c2.1
      refine aw_iload (pc := 3) X d_Ex_makeList_3 (by rfl) ?_
      refine aw_aload_nR (pc := 5) X d_Ex_makeList_5 (by rfl) ?_
      refine aw_getNO (pc := 6) X _ 3 (by omega) (by (repeat (first | rw [aw_up_eq] | rw [aw_up_ne _ _ (by first | assumption | omega)])) <;> first | assumption | rfl) (by rfl) in_Ca (by decide) k_286 (by rfl) d_Ex_makeList_6 ?_
      refine aw_icmp_gtN (pc := 9) X (tgt := 69) d_Ex_makeList_9 (by rfl) (by omega) (by omega) (fun h9 => ?_) (fun h9 => ?_)
      -- br 9 lv=4:n,0:r,1:r,2:n,3:n st=
      · refine aw_vret Y X rfl d_Ex_makeList_69 (by omega) (by omega) (hP _ _ _ ?_)
        -- ret 69 lv=4:n,0:r,1:r,2:n,3:n st=
        refine ⟨rfl, rfl, ?_, hfr⟩
        rw [← hr, show ar.length + 1 - i = 0 by omega, lstK, List.append_nil, List.take_of_length_le h1.le]
        exact h1
      · omega
    | succ k ih =>
      intro i w1 s1 hik hi1 hi2 h1 hfr hr
      have hh := h.keep ha hfr (by omega)
      obtain ⟨st, gg, dp, bg, c1, c2, c3, c4, c5, c6⟩ := id hh
      have c1' : w1 a = aObj 7 [rf G (a + 1), rf G 319, rf G (a + 6), .int (nI ar.length), .int (nI dp), .int (nI (bN bg))] := c1.1
      have hn9 := c2.1
      have he1 : hEx w1 G := (hfr _ (by omega)).trans he
      have he1' : w1 412 = aObj 8 [rf G 3, rf G 5, rf G 15, rf G 413, rf G 416] := he1
      have g1 := h1.obj
      -- the end of one argument
      have T3 : ∀ (w2 : Nat → va_E) (s2 : List Nat), i ≤ ar.length → hTx G w2 416 601 s2 → fr 416 418 w w2 → (s2 ++ ((if q = true then [39] else []) ++ lstK ar q f (ar.length + 1 - (i + 1)) (i + 1))).take 601 = (s ++ lstL ar q f).take 601 → AW G E 5 nx 0 0 w2 49 [(4, .int (nI i)), (0, rf G 412), (1, rf G a), (2, .int (nI f)), (3, .int (nI (bN q)))] [] := by
        intro w2 s2 hin h2 hf2 hr2
        have he2' : w2 412 = aObj 8 [rf G 3, rf G 5, rf G 15, rf G 413, rf G 416] := (hf2 _ (by omega)).trans he
        have g2 := h2.obj
        refine aw_iload_n (pc := 49) X d_Ex_makeList_49 (by rfl) ?_
        refine aw_if_eqN (pc := 50) X (tgt := 63) d_Ex_makeList_50 (by rfl) (by omega) (fun h50 => ?_) (fun h50 => ?_)
        -- br 50 lv=4:n,0:r,1:r,2:n,3:n st=
        · have hq := bN_eq.mp h50
          refine aw_iincN (pc := 63) X 1 (lv' := [(4, _), (0, _), (1, _), (2, _), (3, _)]) d_Ex_makeList_63 (by rfl) (by decide) (by decide) (by rfl) ?_
          refine aw_goto (pc := 66) X (tgt := 3) d_Ex_makeList_66 (by rfl) ?_
          -- stop 3 lv=4:n,0:r,1:r,2:n,3:n st=
          refine ih (i + 1) w2 s2 (by omega) (by omega) (by omega) h2 hf2 ?_
          rw [← hr2, hq]
          rfl
        · have hq := bN_ne.mp h50
          refine aw_aload_nR (pc := 53) X d_Ex_makeList_53 (by rfl) ?_
          refine aw_getO (pc := 54) X _ 4 (by omega) (by (repeat (first | rw [aw_up_eq] | rw [aw_up_ne _ _ (by first | assumption | omega)])) <;> first | assumption | rfl) (by rfl) in_Ex (by decide) k_360 (by rfl) d_Ex_makeList_54 ?_
          refine aw_bipushN (pc := 57) X 39 d_Ex_makeList_57 (by decide) ?_
          -- invokevirtual 59 lv=4:n,0:r,1:r,2:n,3:n st=n,r
          refine aw_callV (pc := 59) X _ (s_Tx_add (d := 0) (a := 416) (m := 601) (s := s2) (x := 39) (by omega) (by omega) (by omega) h2) q_Tx_add k_647 k_248 k_249 (by omega) g2 (by rfl) d_Ex_makeList_59 (by omega) (Nat.le_of_ble_eq_true rfl) ⟨by omega, by omega⟩ (fun h => by cases h) (fun r w3 nx3 hp => ?_)
          obtain ⟨rfl, rfl, h3, hf3⟩ := hp
          refine aw_pop (pc := 62) X d_Ex_makeList_62 (by rfl) ?_
          refine aw_iincN (pc := 63) X 1 (lv' := [(4, _), (0, _), (1, _), (2, _), (3, _)]) d_Ex_makeList_63 (by rfl) (by decide) (by decide) (by rfl) ?_
          refine aw_goto (pc := 66) X (tgt := 3) d_Ex_makeList_66 (by rfl) ?_
          -- stop 3 lv=4:n,0:r,1:r,2:n,3:n st=
          refine ih (i + 1) w3 _ (by omega) (by omega) (by omega) h3 (hf2.trans hf3) ?_
          rw [← hr2, hq, take_app, List.append_assoc]
          rfl
      have T2 : ∀ (w2 : Nat → va_E) (s2 : List Nat), i ≤ ar.length → hTx G w2 416 601 s2 → fr 416 418 w w2 → (s2 ++ (argOf ar i ++ ((if q = true then [39] else []) ++ lstK ar q f (ar.length + 1 - (i + 1)) (i + 1)))).take 601 = (s ++ lstL ar q f).take 601 → AW G E 5 nx 0 0 w2 42 [(4, .int (nI i)), (0, rf G 412), (1, rf G a), (2, .int (nI f)), (3, .int (nI (bN q)))] [] := by
        intro w2 s2 hin h2 hf2 hr2
        have he2 : hEx w2 G := (hf2 _ (by omega)).trans he
        have hh2 := h.keep ha hf2 (by omega)
        refine aw_aload_nR (pc := 42) X d_Ex_makeList_42 (by rfl) ?_
        refine aw_aload_nR (pc := 43) X d_Ex_makeList_43 (by rfl) ?_
        refine aw_iload (pc := 44) X d_Ex_makeList_44 (by rfl) ?_
        -- invokevirtual 46 lv=4:n,0:r,1:r,2:n,3:n st=n,r,r
        refine aw_callV (pc := 46) X _ (s_Ex_makeArgument (d := 2) hnx (by omega) ha (by omega) he2 h2 hh2) q_Ex_makeArgument k_623 k_625 k_9 (by omega) he2 (by rfl) d_Ex_makeList_46 (by omega) (Nat.le_of_ble_eq_true rfl) ⟨by omega, by omega⟩ (fun h => by cases h) (fun r w3 nx3 hp => ?_)
        obtain ⟨rfl, rfl, h3, hf3⟩ := hp
        refine T3 w3 _ hin h3 (hf2.trans hf3) ?_
        rw [← hr2, take_app, List.append_assoc]
      have T1 : ∀ (w2 : Nat → va_E) (s2 : List Nat), i ≤ ar.length → hTx G w2 416 601 s2 → fr 416 418 w w2 → (s2 ++ ((if q = true then [96] else []) ++ (argOf ar i ++ ((if q = true then [39] else []) ++ lstK ar q f (ar.length + 1 - (i + 1)) (i + 1))))).take 601 = (s ++ lstL ar q f).take 601 → AW G E 5 nx 0 0 w2 28 [(4, .int (nI i)), (0, rf G 412), (1, rf G a), (2, .int (nI f)), (3, .int (nI (bN q)))] [] := by
        intro w2 s2 hin h2 hf2 hr2
        have he2' : w2 412 = aObj 8 [rf G 3, rf G 5, rf G 15, rf G 413, rf G 416] := (hf2 _ (by omega)).trans he
        have g2 := h2.obj
        refine aw_iload_n (pc := 28) X d_Ex_makeList_28 (by rfl) ?_
        refine aw_if_eqN (pc := 29) X (tgt := 42) d_Ex_makeList_29 (by rfl) (by omega) (fun h29 => ?_) (fun h29 => ?_)
        -- br 29 lv=4:n,0:r,1:r,2:n,3:n st=
        · have hq := bN_eq.mp h29
          exact T2 w2 s2 hin h2 hf2 (by rw [← hr2, hq]; rfl)
        · have hq := bN_ne.mp h29
          refine aw_aload_nR (pc := 32) X d_Ex_makeList_32 (by rfl) ?_
          refine aw_getO (pc := 33) X _ 4 (by omega) (by (repeat (first | rw [aw_up_eq] | rw [aw_up_ne _ _ (by first | assumption | omega)])) <;> first | assumption | rfl) (by rfl) in_Ex (by decide) k_360 (by rfl) d_Ex_makeList_33 ?_
          refine aw_bipushN (pc := 36) X 96 d_Ex_makeList_36 (by decide) ?_
          -- invokevirtual 38 lv=4:n,0:r,1:r,2:n,3:n st=n,r
          refine aw_callV (pc := 38) X _ (s_Tx_add (d := 0) (a := 416) (m := 601) (s := s2) (x := 96) (by omega) (by omega) (by omega) h2) q_Tx_add k_647 k_248 k_249 (by omega) g2 (by rfl) d_Ex_makeList_38 (by omega) (Nat.le_of_ble_eq_true rfl) ⟨by omega, by omega⟩ (fun h => by cases h) (fun r w3 nx3 hp => ?_)
          obtain ⟨rfl, rfl, h3, hf3⟩ := hp
          refine aw_pop (pc := 41) X d_Ex_makeList_41 (by rfl) ?_
          -- stop 42 lv=4:n,0:r,1:r,2:n,3:n st=
          refine T2 w3 _ hin h3 (hf2.trans hf3) ?_
          rw [← hr2, hq, take_app, List.append_assoc]
          rfl
      refine aw_iload (pc := 3) X d_Ex_makeList_3 (by rfl) ?_
      refine aw_aload_nR (pc := 5) X d_Ex_makeList_5 (by rfl) ?_
      refine aw_getNO (pc := 6) X _ 3 (by omega) (by (repeat (first | rw [aw_up_eq] | rw [aw_up_ne _ _ (by first | assumption | omega)])) <;> first | assumption | rfl) (by rfl) in_Ca (by decide) k_286 (by rfl) d_Ex_makeList_6 ?_
      refine aw_icmp_gtN (pc := 9) X (tgt := 69) d_Ex_makeList_9 (by rfl) (by omega) (by omega) (fun h9 => ?_) (fun h9 => ?_)
      -- br 9 lv=4:n,0:r,1:r,2:n,3:n st=
      · refine aw_vret Y X rfl d_Ex_makeList_69 (by omega) (by omega) (hP _ _ _ ?_)
        -- ret 69 lv=4:n,0:r,1:r,2:n,3:n st=
        refine ⟨rfl, rfl, ?_, hfr⟩
        rw [← hr, show ar.length + 1 - i = 0 by omega, lstK, List.append_nil, List.take_of_length_le h1.le]
        exact h1
      · have hr3 : (s1 ++ ((if f < i then [44] else []) ++ ((if q = true then [96] else []) ++ (argOf ar i ++ ((if q = true then [39] else []) ++ lstK ar q f (ar.length + 1 - (i + 1)) (i + 1)))))).take 601 = (s ++ lstL ar q f).take 601 := by
          rw [← hr, show ar.length + 1 - i = (ar.length + 1 - (i + 1)) + 1 by omega, lstK, lst1]
          simp only [List.append_assoc]
        refine aw_iload (pc := 12) X d_Ex_makeList_12 (by rfl) ?_
        refine aw_iload_n (pc := 14) X d_Ex_makeList_14 (by rfl) ?_
        refine aw_icmp_leN (pc := 15) X (tgt := 28) d_Ex_makeList_15 (by rfl) (by omega) (by omega) (fun h15 => ?_) (fun h15 => ?_)
        -- br 15 lv=4:n,0:r,1:r,2:n,3:n st=
        · exact T1 w1 s1 h9 h1 hfr (by rw [← hr3, if_neg (show ¬ f < i by omega)]; rfl)
        · refine aw_aload_nR (pc := 18) X d_Ex_makeList_18 (by rfl) ?_
          refine aw_getO (pc := 19) X _ 4 (by omega) (by (repeat (first | rw [aw_up_eq] | rw [aw_up_ne _ _ (by first | assumption | omega)])) <;> first | assumption | rfl) (by rfl) in_Ex (by decide) k_360 (by rfl) d_Ex_makeList_19 ?_
          refine aw_bipushN (pc := 22) X 44 d_Ex_makeList_22 (by decide) ?_
          -- invokevirtual 24 lv=4:n,0:r,1:r,2:n,3:n st=n,r
          refine aw_callV (pc := 24) X _ (s_Tx_add (d := 0) (a := 416) (m := 601) (s := s1) (x := 44) (by omega) (by omega) (by omega) h1) q_Tx_add k_647 k_248 k_249 (by omega) g1 (by rfl) d_Ex_makeList_24 (by omega) (Nat.le_of_ble_eq_true rfl) ⟨by omega, by omega⟩ (fun h => by cases h) (fun r w3 nx3 hp => ?_)
          obtain ⟨rfl, rfl, h3, hf3⟩ := hp
          refine aw_pop (pc := 27) X d_Ex_makeList_27 (by rfl) ?_
          -- stop 28 lv=4:n,0:r,1:r,2:n,3:n st=
          exact T1 w3 _ h9 h3 (hfr.trans hf3) (by rw [← hr3, if_pos (show f < i by omega), take_app, List.append_assoc])
  have hn9 : ar.length ≤ 9 := by obtain ⟨st, gg, dp, bg, c1, c2, -⟩ := h; exact c2.1
  refine aw_iload_n (pc := 0) X d_Ex_makeList_0 (by rfl) ?_
  refine aw_istore (pc := 1) X (lv' := [(4, _), (0, _), (1, _), (2, _), (3, _)]) d_Ex_makeList_1 (by decide) (by rfl) ?_
  -- stop 3 lv=4:n,0:r,1:r,2:n,3:n st=
  exact L (max (ar.length + 1) f - f) f w s (by omega) hf1 (by omega) hs (fr.refl _ _ _) rfl
end

