/-! RescanDesk$Expression at 413, its signs at 414 -/
def y_Ep_init : MethodName := ⟨"RescanDesk$Expression", "<init>", "()V"⟩
abbrev b_Ep_init : ByteArray := prog_8_method_1_code
theorem d_Ep_init_0 : decode b_Ep_init 0 = .ok (.aload_n 0, 1) := by decide +kernel
theorem d_Ep_init_1 : decode b_Ep_init 1 = .ok (.invokespecial 3, 3) := by decide +kernel
theorem d_Ep_init_4 : decode b_Ep_init 4 = .ok (.aload_n 0, 1) := by decide +kernel
theorem d_Ep_init_5 : decode b_Ep_init 5 = .ok (.new 9, 3) := by decide +kernel
theorem d_Ep_init_8 : decode b_Ep_init 8 = .ok (.dup, 1) := by decide +kernel
theorem d_Ep_init_9 : decode b_Ep_init 9 = .ok (.sipush 400, 3) := by decide +kernel
theorem d_Ep_init_12 : decode b_Ep_init 12 = .ok (.invokespecial 11, 3) := by decide +kernel
theorem d_Ep_init_15 : decode b_Ep_init 15 = .ok (.putfield 14, 3) := by decide +kernel
theorem d_Ep_init_18 : decode b_Ep_init 18 = .ok (.aload_n 0, 1) := by decide +kernel
theorem d_Ep_init_19 : decode b_Ep_init 19 = .ok (.iconst 0, 1) := by decide +kernel
theorem d_Ep_init_20 : decode b_Ep_init 20 = .ok (.putfield 20, 3) := by decide +kernel
theorem d_Ep_init_23 : decode b_Ep_init 23 = .ok (.aload_n 0, 1) := by decide +kernel
theorem d_Ep_init_24 : decode b_Ep_init 24 = .ok (.iconst 0, 1) := by decide +kernel
theorem d_Ep_init_25 : decode b_Ep_init 25 = .ok (.putfield 24, 3) := by decide +kernel
theorem d_Ep_init_28 : decode b_Ep_init 28 = .ok (.aload_n 0, 1) := by decide +kernel
theorem d_Ep_init_29 : decode b_Ep_init 29 = .ok (.iconst 0, 1) := by decide +kernel
theorem d_Ep_init_30 : decode b_Ep_init 30 = .ok (.putfield 28, 3) := by decide +kernel
theorem d_Ep_init_33 : decode b_Ep_init 33 = .ok (.return_, 1) := by decide +kernel
theorem q_Ep_init : aw_q1 y_Ep_init b_Ep_init 1 none 0 := ⟨k_337, k_78, ⟨by decide, by decide, by decide +kernel⟩, by decide⟩
def y_Ep_reckon : MethodName := ⟨"RescanDesk$Expression", "reckon", "([CIILRescanDesk$Text;)I"⟩
abbrev b_Ep_reckon : ByteArray := prog_8_method_2_code
theorem d_Ep_reckon_0 : decode b_Ep_reckon 0 = .ok (.aload_n 0, 1) := by decide +kernel
theorem d_Ep_reckon_1 : decode b_Ep_reckon 1 = .ok (.getfield 14, 3) := by decide +kernel
theorem d_Ep_reckon_4 : decode b_Ep_reckon 4 = .ok (.invokevirtual 31, 3) := by decide +kernel
theorem d_Ep_reckon_7 : decode b_Ep_reckon 7 = .ok (.iload_n 2, 1) := by decide +kernel
theorem d_Ep_reckon_8 : decode b_Ep_reckon 8 = .ok (.istore 5, 2) := by decide +kernel
theorem d_Ep_reckon_10 : decode b_Ep_reckon 10 = .ok (.iload 5, 2) := by decide +kernel
theorem d_Ep_reckon_12 : decode b_Ep_reckon 12 = .ok (.iload_n 3, 1) := by decide +kernel
theorem d_Ep_reckon_13 : decode b_Ep_reckon 13 = .ok (.if_icmp .ge 31, 3) := by decide +kernel
theorem d_Ep_reckon_16 : decode b_Ep_reckon 16 = .ok (.aload_n 1, 1) := by decide +kernel
theorem d_Ep_reckon_17 : decode b_Ep_reckon 17 = .ok (.iload 5, 2) := by decide +kernel
theorem d_Ep_reckon_19 : decode b_Ep_reckon 19 = .ok (.caload, 1) := by decide +kernel
theorem d_Ep_reckon_20 : decode b_Ep_reckon 20 = .ok (.invokestatic 34, 3) := by decide +kernel
theorem d_Ep_reckon_23 : decode b_Ep_reckon 23 = .ok (.ifCond .ne 15, 3) := by decide +kernel
theorem d_Ep_reckon_26 : decode b_Ep_reckon 26 = .ok (.aload_n 0, 1) := by decide +kernel
theorem d_Ep_reckon_27 : decode b_Ep_reckon 27 = .ok (.getfield 14, 3) := by decide +kernel
theorem d_Ep_reckon_30 : decode b_Ep_reckon 30 = .ok (.aload_n 1, 1) := by decide +kernel
theorem d_Ep_reckon_31 : decode b_Ep_reckon 31 = .ok (.iload 5, 2) := by decide +kernel
theorem d_Ep_reckon_33 : decode b_Ep_reckon 33 = .ok (.caload, 1) := by decide +kernel
theorem d_Ep_reckon_34 : decode b_Ep_reckon 34 = .ok (.invokevirtual 38, 3) := by decide +kernel
theorem d_Ep_reckon_37 : decode b_Ep_reckon 37 = .ok (.pop, 1) := by decide +kernel
theorem d_Ep_reckon_38 : decode b_Ep_reckon 38 = .ok (.iinc 5 1, 3) := by decide +kernel
theorem d_Ep_reckon_41 : decode b_Ep_reckon 41 = .ok (.goto (-31), 3) := by decide +kernel
theorem d_Ep_reckon_44 : decode b_Ep_reckon 44 = .ok (.aload_n 0, 1) := by decide +kernel
theorem d_Ep_reckon_45 : decode b_Ep_reckon 45 = .ok (.iconst 0, 1) := by decide +kernel
theorem d_Ep_reckon_46 : decode b_Ep_reckon 46 = .ok (.putfield 20, 3) := by decide +kernel
theorem d_Ep_reckon_49 : decode b_Ep_reckon 49 = .ok (.aload_n 0, 1) := by decide +kernel
theorem d_Ep_reckon_50 : decode b_Ep_reckon 50 = .ok (.iconst 0, 1) := by decide +kernel
theorem d_Ep_reckon_51 : decode b_Ep_reckon 51 = .ok (.putfield 24, 3) := by decide +kernel
theorem d_Ep_reckon_54 : decode b_Ep_reckon 54 = .ok (.aload_n 0, 1) := by decide +kernel
theorem d_Ep_reckon_55 : decode b_Ep_reckon 55 = .ok (.iconst 0, 1) := by decide +kernel
theorem d_Ep_reckon_56 : decode b_Ep_reckon 56 = .ok (.putfield 28, 3) := by decide +kernel
theorem d_Ep_reckon_59 : decode b_Ep_reckon 59 = .ok (.aload_n 0, 1) := by decide +kernel
theorem d_Ep_reckon_60 : decode b_Ep_reckon 60 = .ok (.iconst 1, 1) := by decide +kernel
theorem d_Ep_reckon_61 : decode b_Ep_reckon 61 = .ok (.iconst 0, 1) := by decide +kernel
theorem d_Ep_reckon_62 : decode b_Ep_reckon 62 = .ok (.invokevirtual 41, 3) := by decide +kernel
theorem d_Ep_reckon_65 : decode b_Ep_reckon 65 = .ok (.lstore 5, 2) := by decide +kernel
theorem d_Ep_reckon_67 : decode b_Ep_reckon 67 = .ok (.aload_n 0, 1) := by decide +kernel
theorem d_Ep_reckon_68 : decode b_Ep_reckon 68 = .ok (.getfield 24, 3) := by decide +kernel
theorem d_Ep_reckon_71 : decode b_Ep_reckon 71 = .ok (.ifCond .ne 17, 3) := by decide +kernel
theorem d_Ep_reckon_74 : decode b_Ep_reckon 74 = .ok (.aload_n 0, 1) := by decide +kernel
theorem d_Ep_reckon_75 : decode b_Ep_reckon 75 = .ok (.getfield 20, 3) := by decide +kernel
theorem d_Ep_reckon_78 : decode b_Ep_reckon 78 = .ok (.aload_n 0, 1) := by decide +kernel
theorem d_Ep_reckon_79 : decode b_Ep_reckon 79 = .ok (.getfield 14, 3) := by decide +kernel
theorem d_Ep_reckon_82 : decode b_Ep_reckon 82 = .ok (.getfield 45, 3) := by decide +kernel
theorem d_Ep_reckon_85 : decode b_Ep_reckon 85 = .ok (.if_icmp .ge 6, 3) := by decide +kernel
theorem d_Ep_reckon_88 : decode b_Ep_reckon 88 = .ok (.bipush 6, 2) := by decide +kernel
theorem d_Ep_reckon_90 : decode b_Ep_reckon 90 = .ok (.ireturn, 1) := by decide +kernel
theorem d_Ep_reckon_91 : decode b_Ep_reckon 91 = .ok (.aload_n 0, 1) := by decide +kernel
theorem d_Ep_reckon_92 : decode b_Ep_reckon 92 = .ok (.getfield 28, 3) := by decide +kernel
theorem d_Ep_reckon_95 : decode b_Ep_reckon 95 = .ok (.ifCond .eq 5, 3) := by decide +kernel
theorem d_Ep_reckon_98 : decode b_Ep_reckon 98 = .ok (.iconst 5, 1) := by decide +kernel
theorem d_Ep_reckon_99 : decode b_Ep_reckon 99 = .ok (.ireturn, 1) := by decide +kernel
theorem d_Ep_reckon_100 : decode b_Ep_reckon 100 = .ok (.aload 4, 2) := by decide +kernel
theorem d_Ep_reckon_102 : decode b_Ep_reckon 102 = .ok (.lload 5, 2) := by decide +kernel
theorem d_Ep_reckon_104 : decode b_Ep_reckon 104 = .ok (.invokevirtual 48, 3) := by decide +kernel
theorem d_Ep_reckon_107 : decode b_Ep_reckon 107 = .ok (.iconst 0, 1) := by decide +kernel
theorem d_Ep_reckon_108 : decode b_Ep_reckon 108 = .ok (.ireturn, 1) := by decide +kernel
theorem q_Ep_reckon : aw_q1 y_Ep_reckon b_Ep_reckon 7 (some .int) 4 := ⟨k_738, k_78, ⟨by decide, by decide, by decide +kernel⟩, by decide⟩
def y_Ep_level : MethodName := ⟨"RescanDesk$Expression", "level", "(II)J"⟩
abbrev b_Ep_level : ByteArray := prog_8_method_3_code
theorem d_Ep_level_0 : decode b_Ep_level 0 = .ok (.iload_n 1, 1) := by decide +kernel
theorem d_Ep_level_1 : decode b_Ep_level 1 = .ok (.iconst 4, 1) := by decide +kernel
theorem d_Ep_level_2 : decode b_Ep_level 2 = .ok (.if_icmp .le 9, 3) := by decide +kernel
theorem d_Ep_level_5 : decode b_Ep_level 5 = .ok (.aload_n 0, 1) := by decide +kernel
theorem d_Ep_level_6 : decode b_Ep_level 6 = .ok (.iload_n 2, 1) := by decide +kernel
theorem d_Ep_level_7 : decode b_Ep_level 7 = .ok (.invokevirtual 52, 3) := by decide +kernel
theorem d_Ep_level_10 : decode b_Ep_level 10 = .ok (.lreturn, 1) := by decide +kernel
theorem d_Ep_level_11 : decode b_Ep_level 11 = .ok (.aload_n 0, 1) := by decide +kernel
theorem d_Ep_level_12 : decode b_Ep_level 12 = .ok (.iload_n 1, 1) := by decide +kernel
theorem d_Ep_level_13 : decode b_Ep_level 13 = .ok (.iconst 1, 1) := by decide +kernel
theorem d_Ep_level_14 : decode b_Ep_level 14 = .ok (.iadd, 1) := by decide +kernel
theorem d_Ep_level_15 : decode b_Ep_level 15 = .ok (.iload_n 2, 1) := by decide +kernel
theorem d_Ep_level_16 : decode b_Ep_level 16 = .ok (.invokevirtual 41, 3) := by decide +kernel
theorem d_Ep_level_19 : decode b_Ep_level 19 = .ok (.lstore_n 3, 1) := by decide +kernel
theorem d_Ep_level_20 : decode b_Ep_level 20 = .ok (.aload_n 0, 1) := by decide +kernel
theorem d_Ep_level_21 : decode b_Ep_level 21 = .ok (.getfield 24, 3) := by decide +kernel
theorem d_Ep_level_24 : decode b_Ep_level 24 = .ok (.ifCond .ne 79, 3) := by decide +kernel
theorem d_Ep_level_27 : decode b_Ep_level 27 = .ok (.aload_n 0, 1) := by decide +kernel
theorem d_Ep_level_28 : decode b_Ep_level 28 = .ok (.getfield 20, 3) := by decide +kernel
theorem d_Ep_level_31 : decode b_Ep_level 31 = .ok (.aload_n 0, 1) := by decide +kernel
theorem d_Ep_level_32 : decode b_Ep_level 32 = .ok (.getfield 14, 3) := by decide +kernel
theorem d_Ep_level_35 : decode b_Ep_level 35 = .ok (.getfield 45, 3) := by decide +kernel
theorem d_Ep_level_38 : decode b_Ep_level 38 = .ok (.if_icmp .ge 65, 3) := by decide +kernel
theorem d_Ep_level_41 : decode b_Ep_level 41 = .ok (.aload_n 0, 1) := by decide +kernel
theorem d_Ep_level_42 : decode b_Ep_level 42 = .ok (.getfield 14, 3) := by decide +kernel
theorem d_Ep_level_45 : decode b_Ep_level 45 = .ok (.getfield 56, 3) := by decide +kernel
theorem d_Ep_level_48 : decode b_Ep_level 48 = .ok (.aload_n 0, 1) := by decide +kernel
theorem d_Ep_level_49 : decode b_Ep_level 49 = .ok (.getfield 20, 3) := by decide +kernel
theorem d_Ep_level_52 : decode b_Ep_level 52 = .ok (.caload, 1) := by decide +kernel
theorem d_Ep_level_53 : decode b_Ep_level 53 = .ok (.invokestatic 60, 3) := by decide +kernel
theorem d_Ep_level_56 : decode b_Ep_level 56 = .ok (.iload_n 1, 1) := by decide +kernel
theorem d_Ep_level_57 : decode b_Ep_level 57 = .ok (.if_icmp .ne 46, 3) := by decide +kernel
theorem d_Ep_level_60 : decode b_Ep_level 60 = .ok (.aload_n 0, 1) := by decide +kernel
theorem d_Ep_level_61 : decode b_Ep_level 61 = .ok (.getfield 14, 3) := by decide +kernel
theorem d_Ep_level_64 : decode b_Ep_level 64 = .ok (.getfield 56, 3) := by decide +kernel
theorem d_Ep_level_67 : decode b_Ep_level 67 = .ok (.aload_n 0, 1) := by decide +kernel
theorem d_Ep_level_68 : decode b_Ep_level 68 = .ok (.getfield 20, 3) := by decide +kernel
theorem d_Ep_level_71 : decode b_Ep_level 71 = .ok (.caload, 1) := by decide +kernel
theorem d_Ep_level_72 : decode b_Ep_level 72 = .ok (.istore 5, 2) := by decide +kernel
theorem d_Ep_level_74 : decode b_Ep_level 74 = .ok (.aload_n 0, 1) := by decide +kernel
theorem d_Ep_level_75 : decode b_Ep_level 75 = .ok (.dup, 1) := by decide +kernel
theorem d_Ep_level_76 : decode b_Ep_level 76 = .ok (.getfield 20, 3) := by decide +kernel
theorem d_Ep_level_79 : decode b_Ep_level 79 = .ok (.iconst 1, 1) := by decide +kernel
theorem d_Ep_level_80 : decode b_Ep_level 80 = .ok (.iadd, 1) := by decide +kernel
theorem d_Ep_level_81 : decode b_Ep_level 81 = .ok (.putfield 20, 3) := by decide +kernel
theorem d_Ep_level_84 : decode b_Ep_level 84 = .ok (.aload_n 0, 1) := by decide +kernel
theorem d_Ep_level_85 : decode b_Ep_level 85 = .ok (.iload 5, 2) := by decide +kernel
theorem d_Ep_level_87 : decode b_Ep_level 87 = .ok (.lload_n 3, 1) := by decide +kernel
theorem d_Ep_level_88 : decode b_Ep_level 88 = .ok (.aload_n 0, 1) := by decide +kernel
theorem d_Ep_level_89 : decode b_Ep_level 89 = .ok (.iload_n 1, 1) := by decide +kernel
theorem d_Ep_level_90 : decode b_Ep_level 90 = .ok (.iconst 1, 1) := by decide +kernel
theorem d_Ep_level_91 : decode b_Ep_level 91 = .ok (.iadd, 1) := by decide +kernel
theorem d_Ep_level_92 : decode b_Ep_level 92 = .ok (.iload_n 2, 1) := by decide +kernel
theorem d_Ep_level_93 : decode b_Ep_level 93 = .ok (.invokevirtual 41, 3) := by decide +kernel
theorem d_Ep_level_96 : decode b_Ep_level 96 = .ok (.invokevirtual 64, 3) := by decide +kernel
theorem d_Ep_level_99 : decode b_Ep_level 99 = .ok (.lstore_n 3, 1) := by decide +kernel
theorem d_Ep_level_100 : decode b_Ep_level 100 = .ok (.goto (-80), 3) := by decide +kernel
theorem d_Ep_level_103 : decode b_Ep_level 103 = .ok (.lload_n 3, 1) := by decide +kernel
theorem d_Ep_level_104 : decode b_Ep_level 104 = .ok (.lreturn, 1) := by decide +kernel
theorem q_Ep_level : aw_q1 y_Ep_level b_Ep_level 6 (some .long) 2 := ⟨k_745, k_78, ⟨by decide, by decide, by decide +kernel⟩, by decide⟩
def y_Ep_operand : MethodName := ⟨"RescanDesk$Expression", "operand", "(I)J"⟩
abbrev b_Ep_operand : ByteArray := prog_8_method_4_code
theorem d_Ep_operand_0 : decode b_Ep_operand 0 = .ok (.aload_n 0, 1) := by decide +kernel
theorem d_Ep_operand_1 : decode b_Ep_operand 1 = .ok (.getfield 20, 3) := by decide +kernel
theorem d_Ep_operand_4 : decode b_Ep_operand 4 = .ok (.aload_n 0, 1) := by decide +kernel
theorem d_Ep_operand_5 : decode b_Ep_operand 5 = .ok (.getfield 14, 3) := by decide +kernel
theorem d_Ep_operand_8 : decode b_Ep_operand 8 = .ok (.getfield 45, 3) := by decide +kernel
theorem d_Ep_operand_11 : decode b_Ep_operand 11 = .ok (.if_icmp .ge 18, 3) := by decide +kernel
theorem d_Ep_operand_14 : decode b_Ep_operand 14 = .ok (.aload_n 0, 1) := by decide +kernel
theorem d_Ep_operand_15 : decode b_Ep_operand 15 = .ok (.getfield 14, 3) := by decide +kernel
theorem d_Ep_operand_18 : decode b_Ep_operand 18 = .ok (.getfield 56, 3) := by decide +kernel
theorem d_Ep_operand_21 : decode b_Ep_operand 21 = .ok (.aload_n 0, 1) := by decide +kernel
theorem d_Ep_operand_22 : decode b_Ep_operand 22 = .ok (.getfield 20, 3) := by decide +kernel
theorem d_Ep_operand_25 : decode b_Ep_operand 25 = .ok (.caload, 1) := by decide +kernel
theorem d_Ep_operand_26 : decode b_Ep_operand 26 = .ok (.goto 4, 3) := by decide +kernel
theorem d_Ep_operand_29 : decode b_Ep_operand 29 = .ok (.iconst 0, 1) := by decide +kernel
theorem d_Ep_operand_30 : decode b_Ep_operand 30 = .ok (.istore_n 2, 1) := by decide +kernel
theorem d_Ep_operand_31 : decode b_Ep_operand 31 = .ok (.iload_n 2, 1) := by decide +kernel
theorem d_Ep_operand_32 : decode b_Ep_operand 32 = .ok (.bipush 45, 2) := by decide +kernel
theorem d_Ep_operand_34 : decode b_Ep_operand 34 = .ok (.if_icmp .eq 14, 3) := by decide +kernel
theorem d_Ep_operand_37 : decode b_Ep_operand 37 = .ok (.iload_n 2, 1) := by decide +kernel
theorem d_Ep_operand_38 : decode b_Ep_operand 38 = .ok (.bipush 40, 2) := by decide +kernel
theorem d_Ep_operand_40 : decode b_Ep_operand 40 = .ok (.if_icmp .eq 8, 3) := by decide +kernel
theorem d_Ep_operand_43 : decode b_Ep_operand 43 = .ok (.aload_n 0, 1) := by decide +kernel
theorem d_Ep_operand_44 : decode b_Ep_operand 44 = .ok (.invokevirtual 68, 3) := by decide +kernel
theorem d_Ep_operand_47 : decode b_Ep_operand 47 = .ok (.lreturn, 1) := by decide +kernel
theorem d_Ep_operand_48 : decode b_Ep_operand 48 = .ok (.iload_n 1, 1) := by decide +kernel
theorem d_Ep_operand_49 : decode b_Ep_operand 49 = .ok (.bipush 6, 2) := by decide +kernel
theorem d_Ep_operand_51 : decode b_Ep_operand 51 = .ok (.if_icmp .lt 10, 3) := by decide +kernel
theorem d_Ep_operand_54 : decode b_Ep_operand 54 = .ok (.aload_n 0, 1) := by decide +kernel
theorem d_Ep_operand_55 : decode b_Ep_operand 55 = .ok (.iconst 1, 1) := by decide +kernel
theorem d_Ep_operand_56 : decode b_Ep_operand 56 = .ok (.putfield 24, 3) := by decide +kernel
theorem d_Ep_operand_59 : decode b_Ep_operand 59 = .ok (.lconst 0, 1) := by decide +kernel
theorem d_Ep_operand_60 : decode b_Ep_operand 60 = .ok (.lreturn, 1) := by decide +kernel
theorem d_Ep_operand_61 : decode b_Ep_operand 61 = .ok (.aload_n 0, 1) := by decide +kernel
theorem d_Ep_operand_62 : decode b_Ep_operand 62 = .ok (.dup, 1) := by decide +kernel
theorem d_Ep_operand_63 : decode b_Ep_operand 63 = .ok (.getfield 20, 3) := by decide +kernel
theorem d_Ep_operand_66 : decode b_Ep_operand 66 = .ok (.iconst 1, 1) := by decide +kernel
theorem d_Ep_operand_67 : decode b_Ep_operand 67 = .ok (.iadd, 1) := by decide +kernel
theorem d_Ep_operand_68 : decode b_Ep_operand 68 = .ok (.putfield 20, 3) := by decide +kernel
theorem d_Ep_operand_71 : decode b_Ep_operand 71 = .ok (.iload_n 2, 1) := by decide +kernel
theorem d_Ep_operand_72 : decode b_Ep_operand 72 = .ok (.bipush 45, 2) := by decide +kernel
theorem d_Ep_operand_74 : decode b_Ep_operand 74 = .ok (.if_icmp .ne 12, 3) := by decide +kernel
theorem d_Ep_operand_77 : decode b_Ep_operand 77 = .ok (.aload_n 0, 1) := by decide +kernel
theorem d_Ep_operand_78 : decode b_Ep_operand 78 = .ok (.iload_n 1, 1) := by decide +kernel
theorem d_Ep_operand_79 : decode b_Ep_operand 79 = .ok (.iconst 1, 1) := by decide +kernel
theorem d_Ep_operand_80 : decode b_Ep_operand 80 = .ok (.iadd, 1) := by decide +kernel
theorem d_Ep_operand_81 : decode b_Ep_operand 81 = .ok (.invokevirtual 52, 3) := by decide +kernel
theorem d_Ep_operand_84 : decode b_Ep_operand 84 = .ok (.lneg, 1) := by decide +kernel
theorem d_Ep_operand_85 : decode b_Ep_operand 85 = .ok (.lreturn, 1) := by decide +kernel
theorem d_Ep_operand_86 : decode b_Ep_operand 86 = .ok (.aload_n 0, 1) := by decide +kernel
theorem d_Ep_operand_87 : decode b_Ep_operand 87 = .ok (.iconst 1, 1) := by decide +kernel
theorem d_Ep_operand_88 : decode b_Ep_operand 88 = .ok (.iload_n 1, 1) := by decide +kernel
theorem d_Ep_operand_89 : decode b_Ep_operand 89 = .ok (.iconst 1, 1) := by decide +kernel
theorem d_Ep_operand_90 : decode b_Ep_operand 90 = .ok (.iadd, 1) := by decide +kernel
theorem d_Ep_operand_91 : decode b_Ep_operand 91 = .ok (.invokevirtual 41, 3) := by decide +kernel
theorem d_Ep_operand_94 : decode b_Ep_operand 94 = .ok (.lstore_n 3, 1) := by decide +kernel
theorem d_Ep_operand_95 : decode b_Ep_operand 95 = .ok (.aload_n 0, 1) := by decide +kernel
theorem d_Ep_operand_96 : decode b_Ep_operand 96 = .ok (.getfield 20, 3) := by decide +kernel
theorem d_Ep_operand_99 : decode b_Ep_operand 99 = .ok (.aload_n 0, 1) := by decide +kernel
theorem d_Ep_operand_100 : decode b_Ep_operand 100 = .ok (.getfield 14, 3) := by decide +kernel
theorem d_Ep_operand_103 : decode b_Ep_operand 103 = .ok (.getfield 45, 3) := by decide +kernel
theorem d_Ep_operand_106 : decode b_Ep_operand 106 = .ok (.if_icmp .ge 33, 3) := by decide +kernel
theorem d_Ep_operand_109 : decode b_Ep_operand 109 = .ok (.aload_n 0, 1) := by decide +kernel
theorem d_Ep_operand_110 : decode b_Ep_operand 110 = .ok (.getfield 14, 3) := by decide +kernel
theorem d_Ep_operand_113 : decode b_Ep_operand 113 = .ok (.getfield 56, 3) := by decide +kernel
theorem d_Ep_operand_116 : decode b_Ep_operand 116 = .ok (.aload_n 0, 1) := by decide +kernel
theorem d_Ep_operand_117 : decode b_Ep_operand 117 = .ok (.getfield 20, 3) := by decide +kernel
theorem d_Ep_operand_120 : decode b_Ep_operand 120 = .ok (.caload, 1) := by decide +kernel
theorem d_Ep_operand_121 : decode b_Ep_operand 121 = .ok (.bipush 41, 2) := by decide +kernel
theorem d_Ep_operand_123 : decode b_Ep_operand 123 = .ok (.if_icmp .ne 16, 3) := by decide +kernel
theorem d_Ep_operand_126 : decode b_Ep_operand 126 = .ok (.aload_n 0, 1) := by decide +kernel
theorem d_Ep_operand_127 : decode b_Ep_operand 127 = .ok (.dup, 1) := by decide +kernel
theorem d_Ep_operand_128 : decode b_Ep_operand 128 = .ok (.getfield 20, 3) := by decide +kernel
theorem d_Ep_operand_131 : decode b_Ep_operand 131 = .ok (.iconst 1, 1) := by decide +kernel
theorem d_Ep_operand_132 : decode b_Ep_operand 132 = .ok (.iadd, 1) := by decide +kernel
theorem d_Ep_operand_133 : decode b_Ep_operand 133 = .ok (.putfield 20, 3) := by decide +kernel
theorem d_Ep_operand_136 : decode b_Ep_operand 136 = .ok (.goto 8, 3) := by decide +kernel
theorem d_Ep_operand_139 : decode b_Ep_operand 139 = .ok (.aload_n 0, 1) := by decide +kernel
theorem d_Ep_operand_140 : decode b_Ep_operand 140 = .ok (.iconst 1, 1) := by decide +kernel
theorem d_Ep_operand_141 : decode b_Ep_operand 141 = .ok (.putfield 24, 3) := by decide +kernel
theorem d_Ep_operand_144 : decode b_Ep_operand 144 = .ok (.lload_n 3, 1) := by decide +kernel
theorem d_Ep_operand_145 : decode b_Ep_operand 145 = .ok (.lreturn, 1) := by decide +kernel
theorem q_Ep_operand : aw_q1 y_Ep_operand b_Ep_operand 5 (some .long) 1 := ⟨k_749, k_78, ⟨by decide, by decide, by decide +kernel⟩, by decide⟩
def y_Ep_number : MethodName := ⟨"RescanDesk$Expression", "number", "()J"⟩
abbrev b_Ep_number : ByteArray := prog_8_method_5_code
theorem d_Ep_number_0 : decode b_Ep_number 0 = .ok (.aload_n 0, 1) := by decide +kernel
theorem d_Ep_number_1 : decode b_Ep_number 1 = .ok (.getfield 20, 3) := by decide +kernel
theorem d_Ep_number_4 : decode b_Ep_number 4 = .ok (.istore_n 1, 1) := by decide +kernel
theorem d_Ep_number_5 : decode b_Ep_number 5 = .ok (.lconst 0, 1) := by decide +kernel
theorem d_Ep_number_6 : decode b_Ep_number 6 = .ok (.lstore_n 2, 1) := by decide +kernel
theorem d_Ep_number_7 : decode b_Ep_number 7 = .ok (.aload_n 0, 1) := by decide +kernel
theorem d_Ep_number_8 : decode b_Ep_number 8 = .ok (.getfield 20, 3) := by decide +kernel
theorem d_Ep_number_11 : decode b_Ep_number 11 = .ok (.aload_n 0, 1) := by decide +kernel
theorem d_Ep_number_12 : decode b_Ep_number 12 = .ok (.getfield 14, 3) := by decide +kernel
theorem d_Ep_number_15 : decode b_Ep_number 15 = .ok (.getfield 45, 3) := by decide +kernel
theorem d_Ep_number_18 : decode b_Ep_number 18 = .ok (.if_icmp .ge 57, 3) := by decide +kernel
theorem d_Ep_number_21 : decode b_Ep_number 21 = .ok (.aload_n 0, 1) := by decide +kernel
theorem d_Ep_number_22 : decode b_Ep_number 22 = .ok (.getfield 14, 3) := by decide +kernel
theorem d_Ep_number_25 : decode b_Ep_number 25 = .ok (.getfield 56, 3) := by decide +kernel
theorem d_Ep_number_28 : decode b_Ep_number 28 = .ok (.aload_n 0, 1) := by decide +kernel
theorem d_Ep_number_29 : decode b_Ep_number 29 = .ok (.getfield 20, 3) := by decide +kernel
theorem d_Ep_number_32 : decode b_Ep_number 32 = .ok (.caload, 1) := by decide +kernel
theorem d_Ep_number_33 : decode b_Ep_number 33 = .ok (.invokestatic 72, 3) := by decide +kernel
theorem d_Ep_number_36 : decode b_Ep_number 36 = .ok (.ifCond .eq 39, 3) := by decide +kernel
theorem d_Ep_number_39 : decode b_Ep_number 39 = .ok (.lload_n 2, 1) := by decide +kernel
theorem d_Ep_number_40 : decode b_Ep_number 40 = .ok (.ldc2_w 75, 3) := by decide +kernel
theorem d_Ep_number_43 : decode b_Ep_number 43 = .ok (.lmul, 1) := by decide +kernel
theorem d_Ep_number_44 : decode b_Ep_number 44 = .ok (.aload_n 0, 1) := by decide +kernel
theorem d_Ep_number_45 : decode b_Ep_number 45 = .ok (.getfield 14, 3) := by decide +kernel
theorem d_Ep_number_48 : decode b_Ep_number 48 = .ok (.getfield 56, 3) := by decide +kernel
theorem d_Ep_number_51 : decode b_Ep_number 51 = .ok (.aload_n 0, 1) := by decide +kernel
theorem d_Ep_number_52 : decode b_Ep_number 52 = .ok (.getfield 20, 3) := by decide +kernel
theorem d_Ep_number_55 : decode b_Ep_number 55 = .ok (.caload, 1) := by decide +kernel
theorem d_Ep_number_56 : decode b_Ep_number 56 = .ok (.bipush 48, 2) := by decide +kernel
theorem d_Ep_number_58 : decode b_Ep_number 58 = .ok (.isub, 1) := by decide +kernel
theorem d_Ep_number_59 : decode b_Ep_number 59 = .ok (.i2l, 1) := by decide +kernel
theorem d_Ep_number_60 : decode b_Ep_number 60 = .ok (.ladd, 1) := by decide +kernel
theorem d_Ep_number_61 : decode b_Ep_number 61 = .ok (.lstore_n 2, 1) := by decide +kernel
theorem d_Ep_number_62 : decode b_Ep_number 62 = .ok (.aload_n 0, 1) := by decide +kernel
theorem d_Ep_number_63 : decode b_Ep_number 63 = .ok (.dup, 1) := by decide +kernel
theorem d_Ep_number_64 : decode b_Ep_number 64 = .ok (.getfield 20, 3) := by decide +kernel
theorem d_Ep_number_67 : decode b_Ep_number 67 = .ok (.iconst 1, 1) := by decide +kernel
theorem d_Ep_number_68 : decode b_Ep_number 68 = .ok (.iadd, 1) := by decide +kernel
theorem d_Ep_number_69 : decode b_Ep_number 69 = .ok (.putfield 20, 3) := by decide +kernel
theorem d_Ep_number_72 : decode b_Ep_number 72 = .ok (.goto (-65), 3) := by decide +kernel
theorem d_Ep_number_75 : decode b_Ep_number 75 = .ok (.aload_n 0, 1) := by decide +kernel
theorem d_Ep_number_76 : decode b_Ep_number 76 = .ok (.getfield 20, 3) := by decide +kernel
theorem d_Ep_number_79 : decode b_Ep_number 79 = .ok (.iload_n 1, 1) := by decide +kernel
theorem d_Ep_number_80 : decode b_Ep_number 80 = .ok (.if_icmp .ne 8, 3) := by decide +kernel
theorem d_Ep_number_83 : decode b_Ep_number 83 = .ok (.aload_n 0, 1) := by decide +kernel
theorem d_Ep_number_84 : decode b_Ep_number 84 = .ok (.iconst 1, 1) := by decide +kernel
theorem d_Ep_number_85 : decode b_Ep_number 85 = .ok (.putfield 24, 3) := by decide +kernel
theorem d_Ep_number_88 : decode b_Ep_number 88 = .ok (.lload_n 2, 1) := by decide +kernel
theorem d_Ep_number_89 : decode b_Ep_number 89 = .ok (.lreturn, 1) := by decide +kernel
theorem q_Ep_number : aw_q1 y_Ep_number b_Ep_number 4 (some .long) 0 := ⟨k_753, k_78, ⟨by decide, by decide, by decide +kernel⟩, by decide⟩
def y_Ep_strengthOf : MethodName := ⟨"RescanDesk$Expression", "strengthOf", "(C)I"⟩
abbrev b_Ep_strengthOf : ByteArray := prog_8_method_6_code
theorem d_Ep_strengthOf_0 : decode b_Ep_strengthOf 0 = .ok (.iload_n 0, 1) := by decide +kernel
theorem d_Ep_strengthOf_1 : decode b_Ep_strengthOf 1 = .ok (.lookupswitch 99 #[(37, 97), (38, 91), (42, 97), (43, 95), (45, 95), (47, 97), (60, 93), (61, 93), (62, 93), (124, 91)], 91) := by decide +kernel
theorem d_Ep_strengthOf_92 : decode b_Ep_strengthOf 92 = .ok (.iconst 1, 1) := by decide +kernel
theorem d_Ep_strengthOf_93 : decode b_Ep_strengthOf 93 = .ok (.ireturn, 1) := by decide +kernel
theorem d_Ep_strengthOf_94 : decode b_Ep_strengthOf 94 = .ok (.iconst 2, 1) := by decide +kernel
theorem d_Ep_strengthOf_95 : decode b_Ep_strengthOf 95 = .ok (.ireturn, 1) := by decide +kernel
theorem d_Ep_strengthOf_96 : decode b_Ep_strengthOf 96 = .ok (.iconst 3, 1) := by decide +kernel
theorem d_Ep_strengthOf_97 : decode b_Ep_strengthOf 97 = .ok (.ireturn, 1) := by decide +kernel
theorem d_Ep_strengthOf_98 : decode b_Ep_strengthOf 98 = .ok (.iconst 4, 1) := by decide +kernel
theorem d_Ep_strengthOf_99 : decode b_Ep_strengthOf 99 = .ok (.ireturn, 1) := by decide +kernel
theorem d_Ep_strengthOf_100 : decode b_Ep_strengthOf 100 = .ok (.iconst 0, 1) := by decide +kernel
theorem d_Ep_strengthOf_101 : decode b_Ep_strengthOf 101 = .ok (.ireturn, 1) := by decide +kernel
theorem q_Ep_strengthOf : aw_q1 y_Ep_strengthOf b_Ep_strengthOf 1 (some .int) 1 := ⟨k_758, k_78, ⟨by decide, by decide, by decide +kernel⟩, by decide⟩
def y_Ep_combine : MethodName := ⟨"RescanDesk$Expression", "combine", "(CJJ)J"⟩
abbrev b_Ep_combine : ByteArray := prog_8_method_7_code
theorem d_Ep_combine_0 : decode b_Ep_combine 0 = .ok (.iload_n 1, 1) := by decide +kernel
theorem d_Ep_combine_1 : decode b_Ep_combine 1 = .ok (.lookupswitch 182 #[(38, 75), (42, 177), (43, 167), (45, 172), (60, 119), (61, 151), (62, 135), (124, 97)], 75) := by decide +kernel
theorem d_Ep_combine_76 : decode b_Ep_combine 76 = .ok (.lload_n 2, 1) := by decide +kernel
theorem d_Ep_combine_77 : decode b_Ep_combine 77 = .ok (.lconst 0, 1) := by decide +kernel
theorem d_Ep_combine_78 : decode b_Ep_combine 78 = .ok (.lcmp, 1) := by decide +kernel
theorem d_Ep_combine_79 : decode b_Ep_combine 79 = .ok (.ifCond .eq 14, 3) := by decide +kernel
theorem d_Ep_combine_82 : decode b_Ep_combine 82 = .ok (.lload 4, 2) := by decide +kernel
theorem d_Ep_combine_84 : decode b_Ep_combine 84 = .ok (.lconst 0, 1) := by decide +kernel
theorem d_Ep_combine_85 : decode b_Ep_combine 85 = .ok (.lcmp, 1) := by decide +kernel
theorem d_Ep_combine_86 : decode b_Ep_combine 86 = .ok (.ifCond .eq 7, 3) := by decide +kernel
theorem d_Ep_combine_89 : decode b_Ep_combine 89 = .ok (.iconst 1, 1) := by decide +kernel
theorem d_Ep_combine_90 : decode b_Ep_combine 90 = .ok (.goto 4, 3) := by decide +kernel
theorem d_Ep_combine_93 : decode b_Ep_combine 93 = .ok (.iconst 0, 1) := by decide +kernel
theorem d_Ep_combine_94 : decode b_Ep_combine 94 = .ok (.invokestatic 77, 3) := by decide +kernel
theorem d_Ep_combine_97 : decode b_Ep_combine 97 = .ok (.lreturn, 1) := by decide +kernel
theorem d_Ep_combine_98 : decode b_Ep_combine 98 = .ok (.lload_n 2, 1) := by decide +kernel
theorem d_Ep_combine_99 : decode b_Ep_combine 99 = .ok (.lconst 0, 1) := by decide +kernel
theorem d_Ep_combine_100 : decode b_Ep_combine 100 = .ok (.lcmp, 1) := by decide +kernel
theorem d_Ep_combine_101 : decode b_Ep_combine 101 = .ok (.ifCond .ne 10, 3) := by decide +kernel
theorem d_Ep_combine_104 : decode b_Ep_combine 104 = .ok (.lload 4, 2) := by decide +kernel
theorem d_Ep_combine_106 : decode b_Ep_combine 106 = .ok (.lconst 0, 1) := by decide +kernel
theorem d_Ep_combine_107 : decode b_Ep_combine 107 = .ok (.lcmp, 1) := by decide +kernel
theorem d_Ep_combine_108 : decode b_Ep_combine 108 = .ok (.ifCond .eq 7, 3) := by decide +kernel
theorem d_Ep_combine_111 : decode b_Ep_combine 111 = .ok (.iconst 1, 1) := by decide +kernel
theorem d_Ep_combine_112 : decode b_Ep_combine 112 = .ok (.goto 4, 3) := by decide +kernel
theorem d_Ep_combine_115 : decode b_Ep_combine 115 = .ok (.iconst 0, 1) := by decide +kernel
theorem d_Ep_combine_116 : decode b_Ep_combine 116 = .ok (.invokestatic 77, 3) := by decide +kernel
theorem d_Ep_combine_119 : decode b_Ep_combine 119 = .ok (.lreturn, 1) := by decide +kernel
theorem d_Ep_combine_120 : decode b_Ep_combine 120 = .ok (.lload_n 2, 1) := by decide +kernel
theorem d_Ep_combine_121 : decode b_Ep_combine 121 = .ok (.lload 4, 2) := by decide +kernel
theorem d_Ep_combine_123 : decode b_Ep_combine 123 = .ok (.lcmp, 1) := by decide +kernel
theorem d_Ep_combine_124 : decode b_Ep_combine 124 = .ok (.ifCond .ge 7, 3) := by decide +kernel
theorem d_Ep_combine_127 : decode b_Ep_combine 127 = .ok (.iconst 1, 1) := by decide +kernel
theorem d_Ep_combine_128 : decode b_Ep_combine 128 = .ok (.goto 4, 3) := by decide +kernel
theorem d_Ep_combine_131 : decode b_Ep_combine 131 = .ok (.iconst 0, 1) := by decide +kernel
theorem d_Ep_combine_132 : decode b_Ep_combine 132 = .ok (.invokestatic 77, 3) := by decide +kernel
theorem d_Ep_combine_135 : decode b_Ep_combine 135 = .ok (.lreturn, 1) := by decide +kernel
theorem d_Ep_combine_136 : decode b_Ep_combine 136 = .ok (.lload_n 2, 1) := by decide +kernel
theorem d_Ep_combine_137 : decode b_Ep_combine 137 = .ok (.lload 4, 2) := by decide +kernel
theorem d_Ep_combine_139 : decode b_Ep_combine 139 = .ok (.lcmp, 1) := by decide +kernel
theorem d_Ep_combine_140 : decode b_Ep_combine 140 = .ok (.ifCond .le 7, 3) := by decide +kernel
theorem d_Ep_combine_143 : decode b_Ep_combine 143 = .ok (.iconst 1, 1) := by decide +kernel
theorem d_Ep_combine_144 : decode b_Ep_combine 144 = .ok (.goto 4, 3) := by decide +kernel
theorem d_Ep_combine_147 : decode b_Ep_combine 147 = .ok (.iconst 0, 1) := by decide +kernel
theorem d_Ep_combine_148 : decode b_Ep_combine 148 = .ok (.invokestatic 77, 3) := by decide +kernel
theorem d_Ep_combine_151 : decode b_Ep_combine 151 = .ok (.lreturn, 1) := by decide +kernel
theorem d_Ep_combine_152 : decode b_Ep_combine 152 = .ok (.lload_n 2, 1) := by decide +kernel
theorem d_Ep_combine_153 : decode b_Ep_combine 153 = .ok (.lload 4, 2) := by decide +kernel
theorem d_Ep_combine_155 : decode b_Ep_combine 155 = .ok (.lcmp, 1) := by decide +kernel
theorem d_Ep_combine_156 : decode b_Ep_combine 156 = .ok (.ifCond .ne 7, 3) := by decide +kernel
theorem d_Ep_combine_159 : decode b_Ep_combine 159 = .ok (.iconst 1, 1) := by decide +kernel
theorem d_Ep_combine_160 : decode b_Ep_combine 160 = .ok (.goto 4, 3) := by decide +kernel
theorem d_Ep_combine_163 : decode b_Ep_combine 163 = .ok (.iconst 0, 1) := by decide +kernel
theorem d_Ep_combine_164 : decode b_Ep_combine 164 = .ok (.invokestatic 77, 3) := by decide +kernel
theorem d_Ep_combine_167 : decode b_Ep_combine 167 = .ok (.lreturn, 1) := by decide +kernel
theorem d_Ep_combine_168 : decode b_Ep_combine 168 = .ok (.lload_n 2, 1) := by decide +kernel
theorem d_Ep_combine_169 : decode b_Ep_combine 169 = .ok (.lload 4, 2) := by decide +kernel
theorem d_Ep_combine_171 : decode b_Ep_combine 171 = .ok (.ladd, 1) := by decide +kernel
theorem d_Ep_combine_172 : decode b_Ep_combine 172 = .ok (.lreturn, 1) := by decide +kernel
theorem d_Ep_combine_173 : decode b_Ep_combine 173 = .ok (.lload_n 2, 1) := by decide +kernel
theorem d_Ep_combine_174 : decode b_Ep_combine 174 = .ok (.lload 4, 2) := by decide +kernel
theorem d_Ep_combine_176 : decode b_Ep_combine 176 = .ok (.lsub, 1) := by decide +kernel
theorem d_Ep_combine_177 : decode b_Ep_combine 177 = .ok (.lreturn, 1) := by decide +kernel
theorem d_Ep_combine_178 : decode b_Ep_combine 178 = .ok (.lload_n 2, 1) := by decide +kernel
theorem d_Ep_combine_179 : decode b_Ep_combine 179 = .ok (.lload 4, 2) := by decide +kernel
theorem d_Ep_combine_181 : decode b_Ep_combine 181 = .ok (.lmul, 1) := by decide +kernel
theorem d_Ep_combine_182 : decode b_Ep_combine 182 = .ok (.lreturn, 1) := by decide +kernel
theorem d_Ep_combine_183 : decode b_Ep_combine 183 = .ok (.aload_n 0, 1) := by decide +kernel
theorem d_Ep_combine_184 : decode b_Ep_combine 184 = .ok (.iload_n 1, 1) := by decide +kernel
theorem d_Ep_combine_185 : decode b_Ep_combine 185 = .ok (.lload_n 2, 1) := by decide +kernel
theorem d_Ep_combine_186 : decode b_Ep_combine 186 = .ok (.lload 4, 2) := by decide +kernel
theorem d_Ep_combine_188 : decode b_Ep_combine 188 = .ok (.invokevirtual 81, 3) := by decide +kernel
theorem d_Ep_combine_191 : decode b_Ep_combine 191 = .ok (.lreturn, 1) := by decide +kernel
theorem q_Ep_combine : aw_q1 y_Ep_combine b_Ep_combine 6 (some .long) 3 := ⟨k_762, k_78, ⟨by decide, by decide, by decide +kernel⟩, by decide⟩
def y_Ep_divide : MethodName := ⟨"RescanDesk$Expression", "divide", "(CJJ)J"⟩
abbrev b_Ep_divide : ByteArray := prog_8_method_8_code
theorem d_Ep_divide_0 : decode b_Ep_divide 0 = .ok (.lload 4, 2) := by decide +kernel
theorem d_Ep_divide_2 : decode b_Ep_divide 2 = .ok (.lconst 0, 1) := by decide +kernel
theorem d_Ep_divide_3 : decode b_Ep_divide 3 = .ok (.lcmp, 1) := by decide +kernel
theorem d_Ep_divide_4 : decode b_Ep_divide 4 = .ok (.ifCond .ne 10, 3) := by decide +kernel
theorem d_Ep_divide_7 : decode b_Ep_divide 7 = .ok (.aload_n 0, 1) := by decide +kernel
theorem d_Ep_divide_8 : decode b_Ep_divide 8 = .ok (.iconst 1, 1) := by decide +kernel
theorem d_Ep_divide_9 : decode b_Ep_divide 9 = .ok (.putfield 28, 3) := by decide +kernel
theorem d_Ep_divide_12 : decode b_Ep_divide 12 = .ok (.lconst 0, 1) := by decide +kernel
theorem d_Ep_divide_13 : decode b_Ep_divide 13 = .ok (.lreturn, 1) := by decide +kernel
theorem d_Ep_divide_14 : decode b_Ep_divide 14 = .ok (.iload_n 1, 1) := by decide +kernel
theorem d_Ep_divide_15 : decode b_Ep_divide 15 = .ok (.bipush 47, 2) := by decide +kernel
theorem d_Ep_divide_17 : decode b_Ep_divide 17 = .ok (.if_icmp .ne 10, 3) := by decide +kernel
theorem d_Ep_divide_20 : decode b_Ep_divide 20 = .ok (.lload_n 2, 1) := by decide +kernel
theorem d_Ep_divide_21 : decode b_Ep_divide 21 = .ok (.lload 4, 2) := by decide +kernel
theorem d_Ep_divide_23 : decode b_Ep_divide 23 = .ok (.ldiv, 1) := by decide +kernel
theorem d_Ep_divide_24 : decode b_Ep_divide 24 = .ok (.goto 7, 3) := by decide +kernel
theorem d_Ep_divide_27 : decode b_Ep_divide 27 = .ok (.lload_n 2, 1) := by decide +kernel
theorem d_Ep_divide_28 : decode b_Ep_divide 28 = .ok (.lload 4, 2) := by decide +kernel
theorem d_Ep_divide_30 : decode b_Ep_divide 30 = .ok (.lrem, 1) := by decide +kernel
theorem d_Ep_divide_31 : decode b_Ep_divide 31 = .ok (.lreturn, 1) := by decide +kernel
theorem q_Ep_divide : aw_q1 y_Ep_divide b_Ep_divide 6 (some .long) 3 := ⟨k_769, k_78, ⟨by decide, by decide, by decide +kernel⟩, by decide⟩
def y_Ep_truth : MethodName := ⟨"RescanDesk$Expression", "truth", "(Z)J"⟩
abbrev b_Ep_truth : ByteArray := prog_8_method_9_code
theorem d_Ep_truth_0 : decode b_Ep_truth 0 = .ok (.iload_n 0, 1) := by decide +kernel
theorem d_Ep_truth_1 : decode b_Ep_truth 1 = .ok (.ifCond .eq 7, 3) := by decide +kernel
theorem d_Ep_truth_4 : decode b_Ep_truth 4 = .ok (.lconst 1, 1) := by decide +kernel
theorem d_Ep_truth_5 : decode b_Ep_truth 5 = .ok (.goto 4, 3) := by decide +kernel
theorem d_Ep_truth_8 : decode b_Ep_truth 8 = .ok (.lconst 0, 1) := by decide +kernel
theorem d_Ep_truth_9 : decode b_Ep_truth 9 = .ok (.lreturn, 1) := by decide +kernel
theorem q_Ep_truth : aw_q1 y_Ep_truth b_Ep_truth 1 (some .long) 1 := ⟨k_765, k_78, ⟨by decide, by decide, by decide +kernel⟩, by decide⟩
/-- where it reads, whether the text is wrong, whether it divided by 0 -/
abbrev ES : Type := Nat × Bool × Bool
def wE (G : aw_G) (w : Nat → va_E) (x : ES) : Nat → va_E := aw_up w 413 (aObj 9 [rf G 414, .int (nI x.1), .int (nI (bN x.2.1)), .int (nI (bN x.2.2))])
theorem wE_at (G : aw_G) (w : Nat → va_E) (x : ES) : wE G w x 413 = aObj 9 [rf G 414, .int (nI x.1), .int (nI (bN x.2.1)), .int (nI (bN x.2.2))] := aw_up_eq _ _ _
theorem wE_ne (G : aw_G) (w : Nat → va_E) (x : ES) {y : Nat} (h : y ≠ 413) : wE G w x y = w y := aw_up_ne _ _ h
theorem wE_up (G : aw_G) (w : Nat → va_E) (x y : ES) : aw_up (wE G w x) 413 (aObj 9 [rf G 414, .int (nI y.1), .int (nI (bN y.2.1)), .int (nI (bN y.2.2))]) = wE G w y := aw_up_up _ _ _ _
def strS (c : Nat) : Nat := if c = 42 ∨ c = 47 ∨ c = 37 then 4 else if c = 43 ∨ c = 45 then 3 else if c = 60 ∨ c = 62 ∨ c = 61 then 2 else if c = 38 ∨ c = 124 then 1 else 0
/-- two numbers made one; whether that was a division by 0 -/
def cmbS (o : Nat) (a b : Int64) : Int64 × Bool :=
  if o = 38 then (if a ≠ 0 ∧ b ≠ 0 then 1 else 0, false) else if o = 124 then (if a ≠ 0 ∨ b ≠ 0 then 1 else 0, false) else if o = 60 then (if a < b then 1 else 0, false) else if o = 62 then (if b < a then 1 else 0, false) else if o = 61 then (if a = b then 1 else 0, false)
  else if o = 43 then (a + b, false) else if o = 45 then (a - b, false) else if o = 42 then (a * b, false) else if b = 0 then (0, true) else if o = 47 then (a / b, false) else (a - a / b * b, false)
/-- the number that the text begins with, and its length -/
def numV : Int64 → List Nat → Int64 × Nat
  | v, [] => (v, 0)
  | v, c :: r => if isDig c = true then ((numV (v * 10 + lN (c - 48)) r).1, (numV (v * 10 + lN (c - 48)) r).2 + 1) else (v, 0)
theorem numV_le : ∀ (v : Int64) (l : List Nat), (numV v l).2 ≤ l.length
  | v, [] => by simp [numV]
  | v, c :: r => by
    unfold numV
    split
    · have := numV_le (v * 10 + lN (c - 48)) r; simp; omega
    · simp
section
variable {G : aw_G} {nx d : Nat} {w : Nat → va_E}
theorem c_Ep_truth {b : Bool} : AC G y_Ep_truth b_Ep_truth 1 (some .long) d false [.int (nI (bN b))] nx w 0 0 (fun r w' nx' => nx' = nx ∧ w' = w ∧ r = some (.long (if b = true then 1 else 0))) := by
  have hb := bN_lt b
  refine AC.ofW (by decide) (Nat.le_of_ble_eq_true rfl) ?_
  intro E P hP Y X
  have X : aw_X G "RescanDesk$Expression" b_Ep_truth 1 (some .long) "truth" _ _ _ _ _ E := X
  refine AW.eql (lv' := [(0, _)]) (by rfl) ?_
  refine aw_iload_n (pc := 0) X d_Ep_truth_0 (by rfl) ?_
  refine aw_if_eqN (pc := 1) X (tgt := 8) d_Ep_truth_1 (by rfl) (by omega) (fun h1 => ?_) (fun h1 => ?_)
  -- br 1 lv=0:n st=
  · refine aw_lconst (pc := 8) X (v := 0) d_Ep_truth_8 (by decide) ?_
    refine aw_lret Y X rfl d_Ep_truth_9 (by omega) (by omega) (hP _ _ _ ?_)
    -- ret 9 lv=0:n st=l
    exact ⟨rfl, rfl, by rw [bN_eq.mp h1]; rfl⟩
  · refine aw_lconst (pc := 4) X (v := 1) d_Ep_truth_4 (by decide) ?_
    refine aw_goto (pc := 5) X (tgt := 9) d_Ep_truth_5 (by rfl) ?_
    refine aw_lret Y X rfl d_Ep_truth_9 (by omega) (by omega) (hP _ _ _ ?_)
    -- ret 9 lv=0:n st=l
    exact ⟨rfl, rfl, by rw [bN_ne.mp h1]; rfl⟩
theorem c_Ep_divide {x : ES} {o : Nat} {a b : Int64} (hnx : 414 ≤ nx) (ho : o < 65536) : AC G y_Ep_divide b_Ep_divide 6 (some .long) d false [rf G 413, .int (nI o), .long a, .long b] nx (wE G w x) 0 0 (fun r w' nx' => nx' = nx ∧ ((b = 0 ∧ w' = wE G w (x.1, x.2.1, true) ∧ r = some (.long 0)) ∨ (b ≠ 0 ∧ w' = wE G w x ∧ r = some (.long (if o = 47 then a / b else a - a / b * b))))) := by
  have e1 := wE_at G w x
  refine AC.ofW (by decide) (Nat.le_of_ble_eq_true rfl) ?_
  intro E P hP Y X
  have X : aw_X G "RescanDesk$Expression" b_Ep_divide 6 (some .long) "divide" _ _ _ _ _ E := X
  refine AW.eql (lv' := [(0, _), (1, _), (2, _), (4, _)]) (by rfl) ?_
  refine aw_lload (pc := 0) X d_Ep_divide_0 (by rfl) ?_
  refine aw_lconst (pc := 2) X (v := 0) d_Ep_divide_2 (by decide) ?_
  refine aw_lcmp (pc := 3) X d_Ep_divide_3 ?_
  refine aw_if_ne (pc := 4) X (tgt := 14) d_Ep_divide_4 (by rfl) (fun h4 => ?_) (fun h4 => ?_)
  -- br 4 lv=0:r,1:n,2:l,4:l st=
  · have hb : ¬ b = 0 := fun q => h4 ((lg_eq0 _ _).mpr q)
    refine aw_iload_n (pc := 14) X d_Ep_divide_14 (by rfl) ?_
    refine aw_bipushN (pc := 15) X 47 d_Ep_divide_15 (by decide) ?_
    refine aw_icmp_neN (pc := 17) X (tgt := 27) d_Ep_divide_17 (by rfl) (by omega) (by omega) (fun h17 => ?_) (fun h17 => ?_)
    -- br 17 lv=0:r,1:n,2:l,4:l st=
    · refine aw_lload_n (pc := 27) X d_Ep_divide_27 (by rfl) ?_
      refine aw_lload (pc := 28) X d_Ep_divide_28 (by rfl) ?_
      refine aw_lrem (pc := 30) X d_Ep_divide_30 hb ?_
      refine aw_lret Y X rfl d_Ep_divide_31 (by omega) (by omega) (hP _ _ _ ?_)
      -- ret 31 lv=0:r,1:n,2:l,4:l st=l
      exact ⟨rfl, Or.inr ⟨hb, rfl, by rw [if_neg h17]⟩⟩
    · refine aw_lload_n (pc := 20) X d_Ep_divide_20 (by rfl) ?_
      refine aw_lload (pc := 21) X d_Ep_divide_21 (by rfl) ?_
      refine aw_ldiv (pc := 23) X d_Ep_divide_23 hb ?_
      refine aw_goto (pc := 24) X (tgt := 31) d_Ep_divide_24 (by rfl) ?_
      refine aw_lret Y X rfl d_Ep_divide_31 (by omega) (by omega) (hP _ _ _ ?_)
      -- ret 31 lv=0:r,1:n,2:l,4:l st=l
      exact ⟨rfl, Or.inr ⟨hb, rfl, by rw [if_pos h17]⟩⟩
  · have hb : b = 0 := (lg_eq0 _ _).mp h4
    refine aw_aload_nR (pc := 7) X d_Ep_divide_7 (by rfl) ?_
    refine aw_iconstN (pc := 8) X 1 d_Ep_divide_8 (by decide) ?_
    refine aw_putO (pc := 9) X _ 3 (by omega) (by (repeat (first | rw [aw_up_eq] | rw [aw_up_ne _ _ (by first | assumption | omega)])) <;> first | assumption | rfl) (by rfl) in_Ep (by decide) ty_Ep ok_Ep nm_Ep k_344 (by rfl) (by decide +kernel) (by decide +kernel) (by simp) (fs' := [_, _, _, _]) (by rfl) d_Ep_divide_9 ?_
    refine aw_lconst (pc := 12) X (v := 0) d_Ep_divide_12 (by decide) ?_
    refine aw_lret Y X rfl d_Ep_divide_13 (by omega) (by omega) (hP _ _ _ ?_)
    -- ret 13 lv=0:r,1:n,2:l,4:l st=l
    exact ⟨rfl, Or.inl ⟨hb, wE_up G w x (x.1, x.2.1, true), rfl⟩⟩
theorem lko_nil (d x : Int) : Op.lookupswitch.offset [] d x = d := rfl
theorem c_Ep_strengthOf {c : Nat} (hc : c < 65536) : AC G y_Ep_strengthOf b_Ep_strengthOf 1 (some .int) d false [.int (nI c)] nx w 0 0 (fun r w' nx' => nx' = nx ∧ w' = w ∧ r = some (.int (nI (strS c)))) := by
  have hT : (nI c).toInt = (c : Int) := nI_toInt (by omega)
  refine AC.ofW (by decide) (Nat.le_of_ble_eq_true rfl) ?_
  intro E P hP Y X
  have X : aw_X G "RescanDesk$Expression" b_Ep_strengthOf 1 (some .int) "strengthOf" _ _ _ _ _ E := X
  refine AW.eql (lv' := [(0, _)]) (by rfl) ?_
  refine aw_iload_n (pc := 0) X d_Ep_strengthOf_0 (by rfl) ?_
  -- lookupswitch 1 lv=0:n st=n
  by_cases q4 : c = 42 ∨ c = 47 ∨ c = 37
  · refine aw_lookup (pc := 1) X (off := 97) (tgt := 98) d_Ep_strengthOf_1 (by decide) (by rw [hT]; rcases q4 with rfl | rfl | rfl <;> decide) (by rfl) ?_
    refine aw_iconstN (pc := 98) X 4 d_Ep_strengthOf_98 (by decide) ?_
    refine aw_iret Y X rfl d_Ep_strengthOf_99 (by omega) (by omega) (hP _ _ _ ?_)
    -- ret 99 lv=0:n st=n
    exact ⟨rfl, rfl, by rw [strS, if_pos q4]⟩
  · by_cases q3 : c = 43 ∨ c = 45
    · refine aw_lookup (pc := 1) X (off := 95) (tgt := 96) d_Ep_strengthOf_1 (by decide) (by rw [hT]; rcases q3 with rfl | rfl <;> decide) (by rfl) ?_
      refine aw_iconstN (pc := 96) X 3 d_Ep_strengthOf_96 (by decide) ?_
      refine aw_iret Y X rfl d_Ep_strengthOf_97 (by omega) (by omega) (hP _ _ _ ?_)
      -- ret 97 lv=0:n st=n
      exact ⟨rfl, rfl, by rw [strS, if_neg q4, if_pos q3]⟩
    · by_cases q2 : c = 60 ∨ c = 62 ∨ c = 61
      · refine aw_lookup (pc := 1) X (off := 93) (tgt := 94) d_Ep_strengthOf_1 (by decide) (by rw [hT]; rcases q2 with rfl | rfl | rfl <;> decide) (by rfl) ?_
        refine aw_iconstN (pc := 94) X 2 d_Ep_strengthOf_94 (by decide) ?_
        refine aw_iret Y X rfl d_Ep_strengthOf_95 (by omega) (by omega) (hP _ _ _ ?_)
        -- ret 95 lv=0:n st=n
        exact ⟨rfl, rfl, by rw [strS, if_neg q4, if_neg q3, if_pos q2]⟩
      · by_cases q1 : c = 38 ∨ c = 124
        · refine aw_lookup (pc := 1) X (off := 91) (tgt := 92) d_Ep_strengthOf_1 (by decide) (by rw [hT]; rcases q1 with rfl | rfl <;> decide) (by rfl) ?_
          refine aw_iconstN (pc := 92) X 1 d_Ep_strengthOf_92 (by decide) ?_
          refine aw_iret Y X rfl d_Ep_strengthOf_93 (by omega) (by omega) (hP _ _ _ ?_)
          -- ret 93 lv=0:n st=n
          exact ⟨rfl, rfl, by rw [strS, if_neg q4, if_neg q3, if_neg q2, if_pos q1]⟩
        · refine aw_lookup (pc := 1) X (off := 99) (tgt := 100) d_Ep_strengthOf_1 (by decide) (by
            rw [hT]
            simp only [Op.lookupswitch.offset_cons, lko_nil]
            repeat rw [if_neg (by omega)]) (by rfl) ?_
          refine aw_iconstN (pc := 100) X 0 d_Ep_strengthOf_100 (by decide) ?_
          refine aw_iret Y X rfl d_Ep_strengthOf_101 (by omega) (by omega) (hP _ _ _ ?_)
          -- ret 101 lv=0:n st=n
          exact ⟨rfl, rfl, by rw [strS, if_neg q4, if_neg q3, if_neg q2, if_neg q1]⟩
theorem c_Ep_number {x : ES} {S : List Nat} (hnx : 416 ≤ nx) (hd : 1 ≤ d) (hx : x.1 ≤ S.length) (hS : hTx G w 414 400 S) : AC G y_Ep_number b_Ep_number 4 (some .long) d false [rf G 413] nx (wE G w x) 0 0 (fun r w' nx' => nx' = nx ∧ w' = wE G w (x.1 + (numV 0 (S.drop x.1)).2, x.2.1 || decide ((numV 0 (S.drop x.1)).2 = 0), x.2.2) ∧ r = some (.long (numV 0 (S.drop x.1)).1)) := by
  obtain ⟨gg, s2, s3, s4⟩ := hS.arr
  have s1 := hS.obj
  have hl := hS.le
  have hdr : ∀ i, i < S.length → S.drop i = gg i :: S.drop (i + 1) := fun i hi => by
    rw [List.drop_eq_getElem_cons hi]
    congr 1
    have : S[i]? = some (gg i) := by
      have q := congrArg (fun l => l[i]?) s3
      simp only [sl_get hi, Nat.zero_add] at q
      exact q
    rw [List.getElem?_eq_getElem hi] at this
    exact Option.some.inj this
  refine AC.ofW (by decide) (Nat.le_of_ble_eq_true rfl) ?_
  intro E P hP Y X
  have X : aw_X G "RescanDesk$Expression" b_Ep_number 4 (some .long) "number" _ _ _ _ _ E := X
  refine AW.eql (lv' := [(0, _)]) (by rfl) ?_
  have hfin : ∀ (i : Nat) (v : Int64), i ≤ S.length → (numV v (S.drop i)).2 = 0 → i + (numV v (S.drop i)).2 = x.1 + (numV 0 (S.drop x.1)).2 → x.1 ≤ i → v = (numV 0 (S.drop x.1)).1 → AW G E 4 nx 0 0 (wE G w (i, x.2)) 75 [(2, .long v), (1, .int (nI x.1)), (0, rf G 413)] [] := fun i v hi0 h0 hr1 hxi hv => by
    have e1 : wE G w (i, x.2) 413 = aObj 9 [rf G 414, .int (nI i), .int (nI (bN x.2.1)), .int (nI (bN x.2.2))] := wE_at G w (i, x.2)
    refine aw_aload_nR (pc := 75) X d_Ep_number_75 (by rfl) ?_
    refine aw_getO (pc := 76) X _ 1 (by omega) (by (repeat (first | rw [aw_up_eq] | rw [aw_up_ne _ _ (by first | assumption | omega)])) <;> first | assumption | rfl) (by rfl) in_Ep (by decide) k_342 (by rfl) d_Ep_number_76 ?_
    refine aw_iload_n (pc := 79) X d_Ep_number_79 (by rfl) ?_
    refine aw_icmp_neN (pc := 80) X (tgt := 88) d_Ep_number_80 (by rfl) (by omega) (by omega) (fun h80 => ?_) (fun h80 => ?_)
    -- br 80 lv=2:l,1:n,0:r st=
    · refine aw_lload_n (pc := 88) X d_Ep_number_88 (by rfl) ?_
      refine aw_lret Y X rfl d_Ep_number_89 (by omega) (by omega) (hP _ _ _ ?_)
      -- ret 89 lv=2:l,1:n,0:r st=l
      refine ⟨rfl, ?_, by rw [hv]⟩
      rw [← hr1, h0, decide_eq_false (by omega), Bool.or_false]
      rfl
    · refine aw_aload_nR (pc := 83) X d_Ep_number_83 (by rfl) ?_
      refine aw_iconstN (pc := 84) X 1 d_Ep_number_84 (by decide) ?_
      refine aw_putO (pc := 85) X _ 2 (by omega) (by (repeat (first | rw [aw_up_eq] | rw [aw_up_ne _ _ (by first | assumption | omega)])) <;> first | assumption | rfl) (by rfl) in_Ep (by decide) ty_Ep ok_Ep nm_Ep k_343 (by rfl) (by decide +kernel) (by decide +kernel) (by simp) (fs' := [_, _, _, _]) (by rfl) d_Ep_number_85 ?_
      refine aw_lload_n (pc := 88) X d_Ep_number_88 (by rfl) ?_
      refine aw_lret Y X rfl d_Ep_number_89 (by omega) (by omega) (hP _ _ _ ?_)
      -- ret 89 lv=2:l,1:n,0:r st=l
      refine ⟨rfl, ?_, by rw [hv]⟩
      rw [show (x.2.1 || decide ((numV 0 (S.drop x.1)).2 = 0)) = true by rw [decide_eq_true (by omega), Bool.or_true], ← hr1, h0]
      exact wE_up G w (i, x.2) (i, true, x.2.2)
  have L : ∀ (k i : Nat) (v : Int64), i + k = S.length → i + (numV v (S.drop i)).2 = x.1 + (numV 0 (S.drop x.1)).2 → (numV v (S.drop i)).1 = (numV 0 (S.drop x.1)).1 → x.1 ≤ i → AW G E 4 nx 0 0 (wE G w (i, x.2)) 7 [(2, .long v), (1, .int (nI x.1)), (0, rf G 413)] [] := by
    intro k
    induction k with
    | zero =>
      intro i v hi hr1 hr2 hxi
      have e1 : wE G w (i, x.2) 413 = aObj 9 [rf G 414, .int (nI i), .int (nI (bN x.2.1)), .int (nI (bN x.2.2))] := wE_at G w (i, x.2)
      have e2 : wE G w (i, x.2) 414 = oTx G 415 S.length := (wE_ne G w _ (by omega)).trans s1
      have hd0 : S.drop i = [] := List.drop_of_length_le (by omega)
      refine aw_aload_nR (pc := 7) X d_Ep_number_7 (by rfl) ?_
      refine aw_getO (pc := 8) X _ 1 (by omega) (by (repeat (first | rw [aw_up_eq] | rw [aw_up_ne _ _ (by first | assumption | omega)])) <;> first | assumption | rfl) (by rfl) in_Ep (by decide) k_342 (by rfl) d_Ep_number_8 ?_
      refine aw_aload_nR (pc := 11) X d_Ep_number_11 (by rfl) ?_
      refine aw_getO (pc := 12) X _ 0 (by omega) (by (repeat (first | rw [aw_up_eq] | rw [aw_up_ne _ _ (by first | assumption | omega)])) <;> first | assumption | rfl) (by rfl) in_Ep (by decide) k_341 (by rfl) d_Ep_number_12 ?_
      refine aw_getNO (pc := 15) X _ 1 (by omega) (by (repeat (first | rw [aw_up_eq] | rw [aw_up_ne _ _ (by first | assumption | omega)])) <;> first | assumption | rfl) (by rfl) in_Tx (by decide) k_112 (by rfl) d_Ep_number_15 ?_
      refine aw_icmp_geN (pc := 18) X (tgt := 75) d_Ep_number_18 (by rfl) (by omega) (by omega) (fun h18 => ?_) (fun h18 => ?_)
      -- br 18 lv=2:l,1:n,0:r st=
      · exact hfin i v (by omega) (by rw [hd0]; rfl) hr1 hxi (by rw [← hr2, hd0]; rfl)
      · omega
    | succ k ih =>
      intro i v hi hr1 hr2 hxi
      have e1 : wE G w (i, x.2) 413 = aObj 9 [rf G 414, .int (nI i), .int (nI (bN x.2.1)), .int (nI (bN x.2.2))] := wE_at G w (i, x.2)
      have e2 : wE G w (i, x.2) 414 = oTx G 415 S.length := (wE_ne G w _ (by omega)).trans s1
      have e3 : wE G w (i, x.2) 415 = aCh G 400 gg := (wE_ne G w _ (by omega)).trans s2
      have hgi := s4 i
      have hd0 := hdr i (by omega)
      refine aw_aload_nR (pc := 7) X d_Ep_number_7 (by rfl) ?_
      refine aw_getO (pc := 8) X _ 1 (by omega) (by (repeat (first | rw [aw_up_eq] | rw [aw_up_ne _ _ (by first | assumption | omega)])) <;> first | assumption | rfl) (by rfl) in_Ep (by decide) k_342 (by rfl) d_Ep_number_8 ?_
      refine aw_aload_nR (pc := 11) X d_Ep_number_11 (by rfl) ?_
      refine aw_getO (pc := 12) X _ 0 (by omega) (by (repeat (first | rw [aw_up_eq] | rw [aw_up_ne _ _ (by first | assumption | omega)])) <;> first | assumption | rfl) (by rfl) in_Ep (by decide) k_341 (by rfl) d_Ep_number_12 ?_
      refine aw_getNO (pc := 15) X _ 1 (by omega) (by (repeat (first | rw [aw_up_eq] | rw [aw_up_ne _ _ (by first | assumption | omega)])) <;> first | assumption | rfl) (by rfl) in_Tx (by decide) k_112 (by rfl) d_Ep_number_15 ?_
      refine aw_icmp_geN (pc := 18) X (tgt := 75) d_Ep_number_18 (by rfl) (by omega) (by omega) (fun h18 => ?_) (fun h18 => ?_)
      -- br 18 lv=2:l,1:n,0:r st=
      · omega
      · refine aw_aload_nR (pc := 21) X d_Ep_number_21 (by rfl) ?_
        refine aw_getO (pc := 22) X _ 0 (by omega) (by (repeat (first | rw [aw_up_eq] | rw [aw_up_ne _ _ (by first | assumption | omega)])) <;> first | assumption | rfl) (by rfl) in_Ep (by decide) k_341 (by rfl) d_Ep_number_22 ?_
        refine aw_getNO (pc := 25) X _ 0 (by omega) (by (repeat (first | rw [aw_up_eq] | rw [aw_up_ne _ _ (by first | assumption | omega)])) <;> first | assumption | rfl) (by rfl) in_Tx (by decide) k_106 (by rfl) d_Ep_number_25 ?_
        refine aw_aload_nR (pc := 28) X d_Ep_number_28 (by rfl) ?_
        refine aw_getO (pc := 29) X _ 1 (by omega) (by (repeat (first | rw [aw_up_eq] | rw [aw_up_ne _ _ (by first | assumption | omega)])) <;> first | assumption | rfl) (by rfl) in_Ep (by decide) k_342 (by rfl) d_Ep_number_29 ?_
        refine aw_caldN (pc := 32) X _ 0 (by omega) (by (repeat (first | rw [aw_up_eq] | rw [aw_up_ne _ _ (by first | assumption | omega)])) <;> first | assumption | rfl) (by rfl) (by omega) (by omega) d_Ep_number_32 ?_
        -- invokestatic 33 lv=2:l,1:n,0:r st=n
        refine aw_callSN (pc := 33) X (c_Rd_isDigit (d := 0) hgi) q_Rd_isDigit k_754 k_565 d_Ep_number_33 (by omega) (Nat.le_of_ble_eq_true rfl) ⟨by omega, by omega⟩ (fun h => by cases h) (fun r w2 nx2 hp => ?_)
        obtain ⟨rfl, rfl, rfl⟩ := hp
        have hb := bN_lt (isDig (gg i))
        refine aw_if_eqN (pc := 36) X (tgt := 75) d_Ep_number_36 (by rfl) (by omega) (fun h36 => ?_) (fun h36 => ?_)
        -- br 36 lv=2:l,1:n,0:r st=
        · have hz : numV v (S.drop i) = (v, 0) := by rw [hd0, numV, if_neg (by rw [bN_eq.mp h36]; decide)]
          exact hfin i v (by omega) (by rw [hz]) hr1 hxi (by rw [← hr2, hz])
        · have hdg := bN_ne.mp h36
          have hdg2 := of_decide_eq_true hdg
          rw [hd0, numV, if_pos hdg] at hr1 hr2
          refine aw_lload_n (pc := 39) X d_Ep_number_39 (by rfl) ?_
          refine aw_ldc2 (pc := 40) X k_755 d_Ep_number_40 ?_
          refine aw_lmul (pc := 43) X d_Ep_number_43 ?_
          refine aw_aload_nR (pc := 44) X d_Ep_number_44 (by rfl) ?_
          refine aw_getO (pc := 45) X _ 0 (by omega) (by (repeat (first | rw [aw_up_eq] | rw [aw_up_ne _ _ (by first | assumption | omega)])) <;> first | assumption | rfl) (by rfl) in_Ep (by decide) k_341 (by rfl) d_Ep_number_45 ?_
          refine aw_getNO (pc := 48) X _ 0 (by omega) (by (repeat (first | rw [aw_up_eq] | rw [aw_up_ne _ _ (by first | assumption | omega)])) <;> first | assumption | rfl) (by rfl) in_Tx (by decide) k_106 (by rfl) d_Ep_number_48 ?_
          refine aw_aload_nR (pc := 51) X d_Ep_number_51 (by rfl) ?_
          refine aw_getO (pc := 52) X _ 1 (by omega) (by (repeat (first | rw [aw_up_eq] | rw [aw_up_ne _ _ (by first | assumption | omega)])) <;> first | assumption | rfl) (by rfl) in_Ep (by decide) k_342 (by rfl) d_Ep_number_52 ?_
          refine aw_caldN (pc := 55) X _ 0 (by omega) (by (repeat (first | rw [aw_up_eq] | rw [aw_up_ne _ _ (by first | assumption | omega)])) <;> first | assumption | rfl) (by rfl) (by omega) (by omega) d_Ep_number_55 ?_
          refine aw_bipushN (pc := 56) X 48 d_Ep_number_56 (by decide) ?_
          refine aw_isubN (pc := 58) X d_Ep_number_58 (by omega) ?_
          refine aw_i2lN (pc := 59) X d_Ep_number_59 (by omega) ?_
          refine aw_ladd (pc := 60) X d_Ep_number_60 ?_
          refine aw_lstore_n (pc := 61) X (lv' := [(2, _), (1, _), (0, _)]) d_Ep_number_61 (by decide) (by rfl) ?_
          refine aw_aload_nR (pc := 62) X d_Ep_number_62 (by rfl) ?_
          refine aw_dup (pc := 63) X d_Ep_number_63 (by rfl) ?_
          refine aw_getO (pc := 64) X _ 1 (by omega) (by (repeat (first | rw [aw_up_eq] | rw [aw_up_ne _ _ (by first | assumption | omega)])) <;> first | assumption | rfl) (by rfl) in_Ep (by decide) k_342 (by rfl) d_Ep_number_64 ?_
          refine aw_iconstN (pc := 67) X 1 d_Ep_number_67 (by decide) ?_
          refine aw_iaddN (pc := 68) X d_Ep_number_68 ?_
          refine aw_putO (pc := 69) X _ 1 (by omega) (by (repeat (first | rw [aw_up_eq] | rw [aw_up_ne _ _ (by first | assumption | omega)])) <;> first | assumption | rfl) (by rfl) in_Ep (by decide) ty_Ep ok_Ep nm_Ep k_342 (by rfl) (by rfl) (by rfl) (by simp) (fs' := [_, _, _, _]) (by rfl) d_Ep_number_69 ?_
          -- stop 72 lv=2:l,1:n,0:r st=
          refine AW.eqw (wE_up G w (i, x.2) (i + 1, x.2)) ?_
          refine aw_goto (pc := 72) X (tgt := 7) d_Ep_number_72 (by rfl) ?_
          -- stop 7 lv=2:l,1:n,0:r st=
          exact ih (i + 1) _ (by omega) (by simp only at hr1; omega) hr2 (by omega)
  have e1 := wE_at G w x
  refine aw_aload_nR (pc := 0) X d_Ep_number_0 (by rfl) ?_
  refine aw_getO (pc := 1) X _ 1 (by omega) (by (repeat (first | rw [aw_up_eq] | rw [aw_up_ne _ _ (by first | assumption | omega)])) <;> first | assumption | rfl) (by rfl) in_Ep (by decide) k_342 (by rfl) d_Ep_number_1 ?_
  refine aw_istore_n (pc := 4) X (lv' := [(1, _), (0, _)]) d_Ep_number_4 (by decide) (by rfl) ?_
  refine aw_lconst (pc := 5) X (v := 0) d_Ep_number_5 (by decide) ?_
  refine aw_lstore_n (pc := 6) X (lv' := [(2, _), (1, _), (0, _)]) d_Ep_number_6 (by decide) (by rfl) ?_
  -- stop 7 lv=2:l,1:n,0:r st=
  exact L (S.length - x.1) x.1 0 (by omega) rfl rfl (Nat.le_refl _)
end

