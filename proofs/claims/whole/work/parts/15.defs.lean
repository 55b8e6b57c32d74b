/-! RescanDesk$Definition: at a, its name's Text at a + 1, its body's at a + 3; RescanDesk$Table at 15, 16, its sixty definitions from 17 on -/
def y_De_init : MethodName := ⟨"RescanDesk$Definition", "<init>", "()V"⟩
abbrev b_De_init : ByteArray := prog_6_method_1_code
theorem d_De_init_0 : decode b_De_init 0 = .ok (.aload_n 0, 1) := by decide +kernel
theorem d_De_init_1 : decode b_De_init 1 = .ok (.invokespecial 3, 3) := by decide +kernel
theorem d_De_init_4 : decode b_De_init 4 = .ok (.aload_n 0, 1) := by decide +kernel
theorem d_De_init_5 : decode b_De_init 5 = .ok (.new 9, 3) := by decide +kernel
theorem d_De_init_8 : decode b_De_init 8 = .ok (.dup, 1) := by decide +kernel
theorem d_De_init_9 : decode b_De_init 9 = .ok (.bipush 12, 2) := by decide +kernel
theorem d_De_init_11 : decode b_De_init 11 = .ok (.invokespecial 11, 3) := by decide +kernel
theorem d_De_init_14 : decode b_De_init 14 = .ok (.putfield 14, 3) := by decide +kernel
theorem d_De_init_17 : decode b_De_init 17 = .ok (.aload_n 0, 1) := by decide +kernel
theorem d_De_init_18 : decode b_De_init 18 = .ok (.new 9, 3) := by decide +kernel
theorem d_De_init_21 : decode b_De_init 21 = .ok (.dup, 1) := by decide +kernel
theorem d_De_init_22 : decode b_De_init 22 = .ok (.bipush 100, 2) := by decide +kernel
theorem d_De_init_24 : decode b_De_init 24 = .ok (.invokespecial 11, 3) := by decide +kernel
theorem d_De_init_27 : decode b_De_init 27 = .ok (.putfield 20, 3) := by decide +kernel
theorem d_De_init_30 : decode b_De_init 30 = .ok (.aload_n 0, 1) := by decide +kernel
theorem d_De_init_31 : decode b_De_init 31 = .ok (.aconst_null, 1) := by decide +kernel
theorem d_De_init_32 : decode b_De_init 32 = .ok (.putfield 23, 3) := by decide +kernel
theorem d_De_init_35 : decode b_De_init 35 = .ok (.return_, 1) := by decide +kernel
theorem q_De_init : aw_q1 y_De_init b_De_init 1 none 0 := ⟨k_171, k_68, ⟨by decide, by decide, by decide +kernel⟩, by decide⟩
def y_De_setBody : MethodName := ⟨"RescanDesk$Definition", "setBody", "([CII)V"⟩
abbrev b_De_setBody : ByteArray := prog_6_method_3_code
theorem d_De_setBody_0 : decode b_De_setBody 0 = .ok (.aload_n 0, 1) := by decide +kernel
theorem d_De_setBody_1 : decode b_De_setBody 1 = .ok (.aconst_null, 1) := by decide +kernel
theorem d_De_setBody_2 : decode b_De_setBody 2 = .ok (.putfield 23, 3) := by decide +kernel
theorem d_De_setBody_5 : decode b_De_setBody 5 = .ok (.aload_n 0, 1) := by decide +kernel
theorem d_De_setBody_6 : decode b_De_setBody 6 = .ok (.getfield 20, 3) := by decide +kernel
theorem d_De_setBody_9 : decode b_De_setBody 9 = .ok (.aload_n 1, 1) := by decide +kernel
theorem d_De_setBody_10 : decode b_De_setBody 10 = .ok (.iload_n 2, 1) := by decide +kernel
theorem d_De_setBody_11 : decode b_De_setBody 11 = .ok (.iload_n 3, 1) := by decide +kernel
theorem d_De_setBody_12 : decode b_De_setBody 12 = .ok (.invokevirtual 50, 3) := by decide +kernel
theorem d_De_setBody_15 : decode b_De_setBody 15 = .ok (.return_, 1) := by decide +kernel
theorem q_De_setBody : aw_q1 y_De_setBody b_De_setBody 4 none 3 := ⟨k_686, k_68, ⟨by decide, by decide, by decide +kernel⟩, by decide⟩
def y_De_copy : MethodName := ⟨"RescanDesk$Definition", "copy", "(LRescanDesk$Definition;)V"⟩
abbrev b_De_copy : ByteArray := prog_6_method_4_code
theorem d_De_copy_0 : decode b_De_copy 0 = .ok (.aload_n 0, 1) := by decide +kernel
theorem d_De_copy_1 : decode b_De_copy 1 = .ok (.aload_n 1, 1) := by decide +kernel
theorem d_De_copy_2 : decode b_De_copy 2 = .ok (.getfield 23, 3) := by decide +kernel
theorem d_De_copy_5 : decode b_De_copy 5 = .ok (.putfield 23, 3) := by decide +kernel
theorem d_De_copy_8 : decode b_De_copy 8 = .ok (.aload_n 0, 1) := by decide +kernel
theorem d_De_copy_9 : decode b_De_copy 9 = .ok (.getfield 14, 3) := by decide +kernel
theorem d_De_copy_12 : decode b_De_copy 12 = .ok (.aload_n 1, 1) := by decide +kernel
theorem d_De_copy_13 : decode b_De_copy 13 = .ok (.getfield 14, 3) := by decide +kernel
theorem d_De_copy_16 : decode b_De_copy 16 = .ok (.getfield 54, 3) := by decide +kernel
theorem d_De_copy_19 : decode b_De_copy 19 = .ok (.iconst 0, 1) := by decide +kernel
theorem d_De_copy_20 : decode b_De_copy 20 = .ok (.aload_n 1, 1) := by decide +kernel
theorem d_De_copy_21 : decode b_De_copy 21 = .ok (.getfield 14, 3) := by decide +kernel
theorem d_De_copy_24 : decode b_De_copy 24 = .ok (.getfield 58, 3) := by decide +kernel
theorem d_De_copy_27 : decode b_De_copy 27 = .ok (.invokevirtual 50, 3) := by decide +kernel
theorem d_De_copy_30 : decode b_De_copy 30 = .ok (.aload_n 0, 1) := by decide +kernel
theorem d_De_copy_31 : decode b_De_copy 31 = .ok (.getfield 20, 3) := by decide +kernel
theorem d_De_copy_34 : decode b_De_copy 34 = .ok (.aload_n 1, 1) := by decide +kernel
theorem d_De_copy_35 : decode b_De_copy 35 = .ok (.getfield 20, 3) := by decide +kernel
theorem d_De_copy_38 : decode b_De_copy 38 = .ok (.getfield 54, 3) := by decide +kernel
theorem d_De_copy_41 : decode b_De_copy 41 = .ok (.iconst 0, 1) := by decide +kernel
theorem d_De_copy_42 : decode b_De_copy 42 = .ok (.aload_n 1, 1) := by decide +kernel
theorem d_De_copy_43 : decode b_De_copy 43 = .ok (.getfield 20, 3) := by decide +kernel
theorem d_De_copy_46 : decode b_De_copy 46 = .ok (.getfield 58, 3) := by decide +kernel
theorem d_De_copy_49 : decode b_De_copy 49 = .ok (.invokevirtual 50, 3) := by decide +kernel
theorem d_De_copy_52 : decode b_De_copy 52 = .ok (.return_, 1) := by decide +kernel
theorem q_De_copy : aw_q1 y_De_copy b_De_copy 2 none 1 := ⟨k_575, k_68, ⟨by decide, by decide, by decide +kernel⟩, by decide⟩
def y_De_setBuiltIn : MethodName := ⟨"RescanDesk$Definition", "setBuiltIn", "(LRescanDesk$BuiltIn;)V"⟩
abbrev b_De_setBuiltIn : ByteArray := prog_6_method_2_code
theorem d_De_setBuiltIn_0 : decode b_De_setBuiltIn 0 = .ok (.aload_n 0, 1) := by decide +kernel
theorem d_De_setBuiltIn_1 : decode b_De_setBuiltIn 1 = .ok (.aload_n 1, 1) := by decide +kernel
theorem d_De_setBuiltIn_2 : decode b_De_setBuiltIn 2 = .ok (.putfield 23, 3) := by decide +kernel
theorem d_De_setBuiltIn_5 : decode b_De_setBuiltIn 5 = .ok (.aload_n 0, 1) := by decide +kernel
theorem d_De_setBuiltIn_6 : decode b_De_setBuiltIn 6 = .ok (.getfield 20, 3) := by decide +kernel
theorem d_De_setBuiltIn_9 : decode b_De_setBuiltIn 9 = .ok (.invokevirtual 27, 3) := by decide +kernel
theorem d_De_setBuiltIn_12 : decode b_De_setBuiltIn 12 = .ok (.aload_n 0, 1) := by decide +kernel
theorem d_De_setBuiltIn_13 : decode b_De_setBuiltIn 13 = .ok (.getfield 14, 3) := by decide +kernel
theorem d_De_setBuiltIn_16 : decode b_De_setBuiltIn 16 = .ok (.invokevirtual 27, 3) := by decide +kernel
theorem d_De_setBuiltIn_19 : decode b_De_setBuiltIn 19 = .ok (.iconst 0, 1) := by decide +kernel
theorem d_De_setBuiltIn_20 : decode b_De_setBuiltIn 20 = .ok (.istore_n 2, 1) := by decide +kernel
theorem d_De_setBuiltIn_21 : decode b_De_setBuiltIn 21 = .ok (.iload_n 2, 1) := by decide +kernel
theorem d_De_setBuiltIn_22 : decode b_De_setBuiltIn 22 = .ok (.aload_n 1, 1) := by decide +kernel
theorem d_De_setBuiltIn_23 : decode b_De_setBuiltIn 23 = .ok (.getfield 30, 3) := by decide +kernel
theorem d_De_setBuiltIn_26 : decode b_De_setBuiltIn 26 = .ok (.invokevirtual 36, 3) := by decide +kernel
theorem d_De_setBuiltIn_29 : decode b_De_setBuiltIn 29 = .ok (.if_icmp .ge 25, 3) := by decide +kernel
theorem d_De_setBuiltIn_32 : decode b_De_setBuiltIn 32 = .ok (.aload_n 0, 1) := by decide +kernel
theorem d_De_setBuiltIn_33 : decode b_De_setBuiltIn 33 = .ok (.getfield 14, 3) := by decide +kernel
theorem d_De_setBuiltIn_36 : decode b_De_setBuiltIn 36 = .ok (.aload_n 1, 1) := by decide +kernel
theorem d_De_setBuiltIn_37 : decode b_De_setBuiltIn 37 = .ok (.getfield 30, 3) := by decide +kernel
theorem d_De_setBuiltIn_40 : decode b_De_setBuiltIn 40 = .ok (.iload_n 2, 1) := by decide +kernel
theorem d_De_setBuiltIn_41 : decode b_De_setBuiltIn 41 = .ok (.invokevirtual 42, 3) := by decide +kernel
theorem d_De_setBuiltIn_44 : decode b_De_setBuiltIn 44 = .ok (.invokevirtual 46, 3) := by decide +kernel
theorem d_De_setBuiltIn_47 : decode b_De_setBuiltIn 47 = .ok (.pop, 1) := by decide +kernel
theorem d_De_setBuiltIn_48 : decode b_De_setBuiltIn 48 = .ok (.iinc 2 1, 3) := by decide +kernel
theorem d_De_setBuiltIn_51 : decode b_De_setBuiltIn 51 = .ok (.goto (-30), 3) := by decide +kernel
theorem d_De_setBuiltIn_54 : decode b_De_setBuiltIn 54 = .ok (.return_, 1) := by decide +kernel
theorem q_De_setBuiltIn : aw_q1 y_De_setBuiltIn b_De_setBuiltIn 3 none 1 := ⟨k_194, k_68, ⟨by decide, by decide, by decide +kernel⟩, by decide⟩
def y_Ta_topmost : MethodName := ⟨"RescanDesk$Table", "topmost", "([CII)I"⟩
abbrev b_Ta_topmost : ByteArray := prog_11_method_2_code
theorem d_Ta_topmost_0 : decode b_Ta_topmost 0 = .ok (.aload_n 0, 1) := by decide +kernel
theorem d_Ta_topmost_1 : decode b_Ta_topmost 1 = .ok (.getfield 18, 3) := by decide +kernel
theorem d_Ta_topmost_4 : decode b_Ta_topmost 4 = .ok (.iconst 1, 1) := by decide +kernel
theorem d_Ta_topmost_5 : decode b_Ta_topmost 5 = .ok (.isub, 1) := by decide +kernel
theorem d_Ta_topmost_6 : decode b_Ta_topmost 6 = .ok (.istore 4, 2) := by decide +kernel
theorem d_Ta_topmost_8 : decode b_Ta_topmost 8 = .ok (.iload 4, 2) := by decide +kernel
theorem d_Ta_topmost_10 : decode b_Ta_topmost 10 = .ok (.ifCond .lt 31, 3) := by decide +kernel
theorem d_Ta_topmost_13 : decode b_Ta_topmost 13 = .ok (.aload_n 0, 1) := by decide +kernel
theorem d_Ta_topmost_14 : decode b_Ta_topmost 14 = .ok (.getfield 11, 3) := by decide +kernel
theorem d_Ta_topmost_17 : decode b_Ta_topmost 17 = .ok (.iload 4, 2) := by decide +kernel
theorem d_Ta_topmost_19 : decode b_Ta_topmost 19 = .ok (.aaload, 1) := by decide +kernel
theorem d_Ta_topmost_20 : decode b_Ta_topmost 20 = .ok (.getfield 32, 3) := by decide +kernel
theorem d_Ta_topmost_23 : decode b_Ta_topmost 23 = .ok (.aload_n 1, 1) := by decide +kernel
theorem d_Ta_topmost_24 : decode b_Ta_topmost 24 = .ok (.iload_n 2, 1) := by decide +kernel
theorem d_Ta_topmost_25 : decode b_Ta_topmost 25 = .ok (.iload_n 3, 1) := by decide +kernel
theorem d_Ta_topmost_26 : decode b_Ta_topmost 26 = .ok (.invokevirtual 36, 3) := by decide +kernel
theorem d_Ta_topmost_29 : decode b_Ta_topmost 29 = .ok (.ifCond .eq 6, 3) := by decide +kernel
theorem d_Ta_topmost_32 : decode b_Ta_topmost 32 = .ok (.iload 4, 2) := by decide +kernel
theorem d_Ta_topmost_34 : decode b_Ta_topmost 34 = .ok (.ireturn, 1) := by decide +kernel
theorem d_Ta_topmost_35 : decode b_Ta_topmost 35 = .ok (.iinc 4 (-1), 3) := by decide +kernel
theorem d_Ta_topmost_38 : decode b_Ta_topmost 38 = .ok (.goto (-30), 3) := by decide +kernel
theorem d_Ta_topmost_41 : decode b_Ta_topmost 41 = .ok (.iconst (-1), 1) := by decide +kernel
theorem d_Ta_topmost_42 : decode b_Ta_topmost 42 = .ok (.ireturn, 1) := by decide +kernel
theorem q_Ta_topmost : aw_q1 y_Ta_topmost b_Ta_topmost 5 (some .int) 3 := ⟨k_418, k_67, ⟨by decide, by decide, by decide +kernel⟩, by decide⟩
def y_Ta_macros : MethodName := ⟨"RescanDesk$Table", "macros", "()I"⟩
abbrev b_Ta_macros : ByteArray := prog_11_method_3_code
theorem d_Ta_macros_0 : decode b_Ta_macros 0 = .ok (.iconst 0, 1) := by decide +kernel
theorem d_Ta_macros_1 : decode b_Ta_macros 1 = .ok (.istore_n 1, 1) := by decide +kernel
theorem d_Ta_macros_2 : decode b_Ta_macros 2 = .ok (.iconst 0, 1) := by decide +kernel
theorem d_Ta_macros_3 : decode b_Ta_macros 3 = .ok (.istore_n 2, 1) := by decide +kernel
theorem d_Ta_macros_4 : decode b_Ta_macros 4 = .ok (.iload_n 2, 1) := by decide +kernel
theorem d_Ta_macros_5 : decode b_Ta_macros 5 = .ok (.aload_n 0, 1) := by decide +kernel
theorem d_Ta_macros_6 : decode b_Ta_macros 6 = .ok (.getfield 18, 3) := by decide +kernel
theorem d_Ta_macros_9 : decode b_Ta_macros 9 = .ok (.if_icmp .ge 39, 3) := by decide +kernel
theorem d_Ta_macros_12 : decode b_Ta_macros 12 = .ok (.aload_n 0, 1) := by decide +kernel
theorem d_Ta_macros_13 : decode b_Ta_macros 13 = .ok (.getfield 11, 3) := by decide +kernel
theorem d_Ta_macros_16 : decode b_Ta_macros 16 = .ok (.iload_n 2, 1) := by decide +kernel
theorem d_Ta_macros_17 : decode b_Ta_macros 17 = .ok (.aaload, 1) := by decide +kernel
theorem d_Ta_macros_18 : decode b_Ta_macros 18 = .ok (.getfield 32, 3) := by decide +kernel
theorem d_Ta_macros_21 : decode b_Ta_macros 21 = .ok (.astore_n 3, 1) := by decide +kernel
theorem d_Ta_macros_22 : decode b_Ta_macros 22 = .ok (.aload_n 0, 1) := by decide +kernel
theorem d_Ta_macros_23 : decode b_Ta_macros 23 = .ok (.aload_n 3, 1) := by decide +kernel
theorem d_Ta_macros_24 : decode b_Ta_macros 24 = .ok (.getfield 42, 3) := by decide +kernel
theorem d_Ta_macros_27 : decode b_Ta_macros 27 = .ok (.iconst 0, 1) := by decide +kernel
theorem d_Ta_macros_28 : decode b_Ta_macros 28 = .ok (.aload_n 3, 1) := by decide +kernel
theorem d_Ta_macros_29 : decode b_Ta_macros 29 = .ok (.getfield 46, 3) := by decide +kernel
theorem d_Ta_macros_32 : decode b_Ta_macros 32 = .ok (.invokevirtual 49, 3) := by decide +kernel
theorem d_Ta_macros_35 : decode b_Ta_macros 35 = .ok (.iload_n 2, 1) := by decide +kernel
theorem d_Ta_macros_36 : decode b_Ta_macros 36 = .ok (.if_icmp .ne 6, 3) := by decide +kernel
theorem d_Ta_macros_39 : decode b_Ta_macros 39 = .ok (.iinc 1 1, 3) := by decide +kernel
theorem d_Ta_macros_42 : decode b_Ta_macros 42 = .ok (.iinc 2 1, 3) := by decide +kernel
theorem d_Ta_macros_45 : decode b_Ta_macros 45 = .ok (.goto (-41), 3) := by decide +kernel
theorem d_Ta_macros_48 : decode b_Ta_macros 48 = .ok (.iload_n 1, 1) := by decide +kernel
theorem d_Ta_macros_49 : decode b_Ta_macros 49 = .ok (.ireturn, 1) := by decide +kernel
theorem q_Ta_macros : aw_q1 y_Ta_macros b_Ta_macros 4 (some .int) 0 := ⟨k_414, k_67, ⟨by decide, by decide, by decide +kernel⟩, by decide⟩
def y_Ta_push : MethodName := ⟨"RescanDesk$Table", "push", "([CII)LRescanDesk$Definition;"⟩
abbrev b_Ta_push : ByteArray := prog_11_method_4_code
theorem d_Ta_push_0 : decode b_Ta_push 0 = .ok (.aload_n 0, 1) := by decide +kernel
theorem d_Ta_push_1 : decode b_Ta_push 1 = .ok (.getfield 18, 3) := by decide +kernel
theorem d_Ta_push_4 : decode b_Ta_push 4 = .ok (.bipush 60, 2) := by decide +kernel
theorem d_Ta_push_6 : decode b_Ta_push 6 = .ok (.if_icmp .lt 5, 3) := by decide +kernel
theorem d_Ta_push_9 : decode b_Ta_push 9 = .ok (.aconst_null, 1) := by decide +kernel
theorem d_Ta_push_10 : decode b_Ta_push 10 = .ok (.areturn, 1) := by decide +kernel
theorem d_Ta_push_11 : decode b_Ta_push 11 = .ok (.aload_n 0, 1) := by decide +kernel
theorem d_Ta_push_12 : decode b_Ta_push 12 = .ok (.getfield 11, 3) := by decide +kernel
theorem d_Ta_push_15 : decode b_Ta_push 15 = .ok (.aload_n 0, 1) := by decide +kernel
theorem d_Ta_push_16 : decode b_Ta_push 16 = .ok (.getfield 18, 3) := by decide +kernel
theorem d_Ta_push_19 : decode b_Ta_push 19 = .ok (.aaload, 1) := by decide +kernel
theorem d_Ta_push_20 : decode b_Ta_push 20 = .ok (.astore 4, 2) := by decide +kernel
theorem d_Ta_push_22 : decode b_Ta_push 22 = .ok (.aload 4, 2) := by decide +kernel
theorem d_Ta_push_24 : decode b_Ta_push 24 = .ok (.getfield 32, 3) := by decide +kernel
theorem d_Ta_push_27 : decode b_Ta_push 27 = .ok (.aload_n 1, 1) := by decide +kernel
theorem d_Ta_push_28 : decode b_Ta_push 28 = .ok (.iload_n 2, 1) := by decide +kernel
theorem d_Ta_push_29 : decode b_Ta_push 29 = .ok (.iload_n 3, 1) := by decide +kernel
theorem d_Ta_push_30 : decode b_Ta_push 30 = .ok (.invokevirtual 53, 3) := by decide +kernel
theorem d_Ta_push_33 : decode b_Ta_push 33 = .ok (.aload_n 0, 1) := by decide +kernel
theorem d_Ta_push_34 : decode b_Ta_push 34 = .ok (.dup, 1) := by decide +kernel
theorem d_Ta_push_35 : decode b_Ta_push 35 = .ok (.getfield 18, 3) := by decide +kernel
theorem d_Ta_push_38 : decode b_Ta_push 38 = .ok (.iconst 1, 1) := by decide +kernel
theorem d_Ta_push_39 : decode b_Ta_push 39 = .ok (.iadd, 1) := by decide +kernel
theorem d_Ta_push_40 : decode b_Ta_push 40 = .ok (.putfield 18, 3) := by decide +kernel
theorem d_Ta_push_43 : decode b_Ta_push 43 = .ok (.aload 4, 2) := by decide +kernel
theorem d_Ta_push_45 : decode b_Ta_push 45 = .ok (.areturn, 1) := by decide +kernel
theorem q_Ta_push : aw_q1 y_Ta_push b_Ta_push 5 (some (.object "RescanDesk$Definition")) 3 := ⟨k_681, k_67, ⟨by decide, by decide, by decide +kernel⟩, by decide⟩
def y_Ta_pop : MethodName := ⟨"RescanDesk$Table", "pop", "([CII)V"⟩
abbrev b_Ta_pop : ByteArray := prog_11_method_5_code
theorem d_Ta_pop_0 : decode b_Ta_pop 0 = .ok (.aload_n 0, 1) := by decide +kernel
theorem d_Ta_pop_1 : decode b_Ta_pop 1 = .ok (.aload_n 1, 1) := by decide +kernel
theorem d_Ta_pop_2 : decode b_Ta_pop 2 = .ok (.iload_n 2, 1) := by decide +kernel
theorem d_Ta_pop_3 : decode b_Ta_pop 3 = .ok (.iload_n 3, 1) := by decide +kernel
theorem d_Ta_pop_4 : decode b_Ta_pop 4 = .ok (.invokevirtual 49, 3) := by decide +kernel
theorem d_Ta_pop_7 : decode b_Ta_pop 7 = .ok (.istore 4, 2) := by decide +kernel
theorem d_Ta_pop_9 : decode b_Ta_pop 9 = .ok (.iload 4, 2) := by decide +kernel
theorem d_Ta_pop_11 : decode b_Ta_pop 11 = .ok (.iconst (-1), 1) := by decide +kernel
theorem d_Ta_pop_12 : decode b_Ta_pop 12 = .ok (.if_icmp .eq 9, 3) := by decide +kernel
theorem d_Ta_pop_15 : decode b_Ta_pop 15 = .ok (.aload_n 0, 1) := by decide +kernel
theorem d_Ta_pop_16 : decode b_Ta_pop 16 = .ok (.iload 4, 2) := by decide +kernel
theorem d_Ta_pop_18 : decode b_Ta_pop 18 = .ok (.invokevirtual 57, 3) := by decide +kernel
theorem d_Ta_pop_21 : decode b_Ta_pop 21 = .ok (.return_, 1) := by decide +kernel
theorem q_Ta_pop : aw_q1 y_Ta_pop b_Ta_pop 5 none 3 := ⟨k_690, k_67, ⟨by decide, by decide, by decide +kernel⟩, by decide⟩
def y_Ta_popAll : MethodName := ⟨"RescanDesk$Table", "popAll", "([CII)V"⟩
abbrev b_Ta_popAll : ByteArray := prog_11_method_6_code
theorem d_Ta_popAll_0 : decode b_Ta_popAll 0 = .ok (.aload_n 0, 1) := by decide +kernel
theorem d_Ta_popAll_1 : decode b_Ta_popAll 1 = .ok (.getfield 18, 3) := by decide +kernel
theorem d_Ta_popAll_4 : decode b_Ta_popAll 4 = .ok (.iconst 1, 1) := by decide +kernel
theorem d_Ta_popAll_5 : decode b_Ta_popAll 5 = .ok (.isub, 1) := by decide +kernel
theorem d_Ta_popAll_6 : decode b_Ta_popAll 6 = .ok (.istore 4, 2) := by decide +kernel
theorem d_Ta_popAll_8 : decode b_Ta_popAll 8 = .ok (.iload 4, 2) := by decide +kernel
theorem d_Ta_popAll_10 : decode b_Ta_popAll 10 = .ok (.ifCond .lt 34, 3) := by decide +kernel
theorem d_Ta_popAll_13 : decode b_Ta_popAll 13 = .ok (.aload_n 0, 1) := by decide +kernel
theorem d_Ta_popAll_14 : decode b_Ta_popAll 14 = .ok (.getfield 11, 3) := by decide +kernel
theorem d_Ta_popAll_17 : decode b_Ta_popAll 17 = .ok (.iload 4, 2) := by decide +kernel
theorem d_Ta_popAll_19 : decode b_Ta_popAll 19 = .ok (.aaload, 1) := by decide +kernel
theorem d_Ta_popAll_20 : decode b_Ta_popAll 20 = .ok (.getfield 32, 3) := by decide +kernel
theorem d_Ta_popAll_23 : decode b_Ta_popAll 23 = .ok (.aload_n 1, 1) := by decide +kernel
theorem d_Ta_popAll_24 : decode b_Ta_popAll 24 = .ok (.iload_n 2, 1) := by decide +kernel
theorem d_Ta_popAll_25 : decode b_Ta_popAll 25 = .ok (.iload_n 3, 1) := by decide +kernel
theorem d_Ta_popAll_26 : decode b_Ta_popAll 26 = .ok (.invokevirtual 36, 3) := by decide +kernel
theorem d_Ta_popAll_29 : decode b_Ta_popAll 29 = .ok (.ifCond .eq 9, 3) := by decide +kernel
theorem d_Ta_popAll_32 : decode b_Ta_popAll 32 = .ok (.aload_n 0, 1) := by decide +kernel
theorem d_Ta_popAll_33 : decode b_Ta_popAll 33 = .ok (.iload 4, 2) := by decide +kernel
theorem d_Ta_popAll_35 : decode b_Ta_popAll 35 = .ok (.invokevirtual 57, 3) := by decide +kernel
theorem d_Ta_popAll_38 : decode b_Ta_popAll 38 = .ok (.iinc 4 (-1), 3) := by decide +kernel
theorem d_Ta_popAll_41 : decode b_Ta_popAll 41 = .ok (.goto (-33), 3) := by decide +kernel
theorem d_Ta_popAll_44 : decode b_Ta_popAll 44 = .ok (.return_, 1) := by decide +kernel
theorem q_Ta_popAll : aw_q1 y_Ta_popAll b_Ta_popAll 5 none 3 := ⟨k_698, k_67, ⟨by decide, by decide, by decide +kernel⟩, by decide⟩
def y_Ta_remove : MethodName := ⟨"RescanDesk$Table", "remove", "(I)V"⟩
abbrev b_Ta_remove : ByteArray := prog_11_method_7_code
theorem d_Ta_remove_0 : decode b_Ta_remove 0 = .ok (.aload_n 0, 1) := by decide +kernel
theorem d_Ta_remove_1 : decode b_Ta_remove 1 = .ok (.getfield 11, 3) := by decide +kernel
theorem d_Ta_remove_4 : decode b_Ta_remove 4 = .ok (.iload_n 1, 1) := by decide +kernel
theorem d_Ta_remove_5 : decode b_Ta_remove 5 = .ok (.aaload, 1) := by decide +kernel
theorem d_Ta_remove_6 : decode b_Ta_remove 6 = .ok (.astore_n 2, 1) := by decide +kernel
theorem d_Ta_remove_7 : decode b_Ta_remove 7 = .ok (.iload_n 1, 1) := by decide +kernel
theorem d_Ta_remove_8 : decode b_Ta_remove 8 = .ok (.istore_n 3, 1) := by decide +kernel
theorem d_Ta_remove_9 : decode b_Ta_remove 9 = .ok (.iload_n 3, 1) := by decide +kernel
theorem d_Ta_remove_10 : decode b_Ta_remove 10 = .ok (.iconst 1, 1) := by decide +kernel
theorem d_Ta_remove_11 : decode b_Ta_remove 11 = .ok (.iadd, 1) := by decide +kernel
theorem d_Ta_remove_12 : decode b_Ta_remove 12 = .ok (.aload_n 0, 1) := by decide +kernel
theorem d_Ta_remove_13 : decode b_Ta_remove 13 = .ok (.getfield 18, 3) := by decide +kernel
theorem d_Ta_remove_16 : decode b_Ta_remove 16 = .ok (.if_icmp .ge 23, 3) := by decide +kernel
theorem d_Ta_remove_19 : decode b_Ta_remove 19 = .ok (.aload_n 0, 1) := by decide +kernel
theorem d_Ta_remove_20 : decode b_Ta_remove 20 = .ok (.getfield 11, 3) := by decide +kernel
theorem d_Ta_remove_23 : decode b_Ta_remove 23 = .ok (.iload_n 3, 1) := by decide +kernel
theorem d_Ta_remove_24 : decode b_Ta_remove 24 = .ok (.aload_n 0, 1) := by decide +kernel
theorem d_Ta_remove_25 : decode b_Ta_remove 25 = .ok (.getfield 11, 3) := by decide +kernel
theorem d_Ta_remove_28 : decode b_Ta_remove 28 = .ok (.iload_n 3, 1) := by decide +kernel
theorem d_Ta_remove_29 : decode b_Ta_remove 29 = .ok (.iconst 1, 1) := by decide +kernel
theorem d_Ta_remove_30 : decode b_Ta_remove 30 = .ok (.iadd, 1) := by decide +kernel
theorem d_Ta_remove_31 : decode b_Ta_remove 31 = .ok (.aaload, 1) := by decide +kernel
theorem d_Ta_remove_32 : decode b_Ta_remove 32 = .ok (.aastore, 1) := by decide +kernel
theorem d_Ta_remove_33 : decode b_Ta_remove 33 = .ok (.iinc 3 1, 3) := by decide +kernel
theorem d_Ta_remove_36 : decode b_Ta_remove 36 = .ok (.goto (-27), 3) := by decide +kernel
theorem d_Ta_remove_39 : decode b_Ta_remove 39 = .ok (.aload_n 0, 1) := by decide +kernel
theorem d_Ta_remove_40 : decode b_Ta_remove 40 = .ok (.dup, 1) := by decide +kernel
theorem d_Ta_remove_41 : decode b_Ta_remove 41 = .ok (.getfield 18, 3) := by decide +kernel
theorem d_Ta_remove_44 : decode b_Ta_remove 44 = .ok (.iconst 1, 1) := by decide +kernel
theorem d_Ta_remove_45 : decode b_Ta_remove 45 = .ok (.isub, 1) := by decide +kernel
theorem d_Ta_remove_46 : decode b_Ta_remove 46 = .ok (.putfield 18, 3) := by decide +kernel
theorem d_Ta_remove_49 : decode b_Ta_remove 49 = .ok (.aload_n 0, 1) := by decide +kernel
theorem d_Ta_remove_50 : decode b_Ta_remove 50 = .ok (.getfield 11, 3) := by decide +kernel
theorem d_Ta_remove_53 : decode b_Ta_remove 53 = .ok (.aload_n 0, 1) := by decide +kernel
theorem d_Ta_remove_54 : decode b_Ta_remove 54 = .ok (.getfield 18, 3) := by decide +kernel
theorem d_Ta_remove_57 : decode b_Ta_remove 57 = .ok (.aload_n 2, 1) := by decide +kernel
theorem d_Ta_remove_58 : decode b_Ta_remove 58 = .ok (.aastore, 1) := by decide +kernel
theorem d_Ta_remove_59 : decode b_Ta_remove 59 = .ok (.return_, 1) := by decide +kernel
theorem q_Ta_remove : aw_q1 y_Ta_remove b_Ta_remove 4 none 1 := ⟨k_694, k_67, ⟨by decide, by decide, by decide +kernel⟩, by decide⟩
def y_Ta_init : MethodName := ⟨"RescanDesk$Table", "<init>", "()V"⟩
abbrev b_Ta_init : ByteArray := prog_11_method_1_code
theorem d_Ta_init_0 : decode b_Ta_init 0 = .ok (.aload_n 0, 1) := by decide +kernel
theorem d_Ta_init_1 : decode b_Ta_init 1 = .ok (.invokespecial 3, 3) := by decide +kernel
theorem d_Ta_init_4 : decode b_Ta_init 4 = .ok (.aload_n 0, 1) := by decide +kernel
theorem d_Ta_init_5 : decode b_Ta_init 5 = .ok (.bipush 60, 2) := by decide +kernel
theorem d_Ta_init_7 : decode b_Ta_init 7 = .ok (.anewarray 9, 3) := by decide +kernel
theorem d_Ta_init_10 : decode b_Ta_init 10 = .ok (.putfield 11, 3) := by decide +kernel
theorem d_Ta_init_13 : decode b_Ta_init 13 = .ok (.iconst 0, 1) := by decide +kernel
theorem d_Ta_init_14 : decode b_Ta_init 14 = .ok (.istore_n 1, 1) := by decide +kernel
theorem d_Ta_init_15 : decode b_Ta_init 15 = .ok (.iload_n 1, 1) := by decide +kernel
theorem d_Ta_init_16 : decode b_Ta_init 16 = .ok (.bipush 60, 2) := by decide +kernel
theorem d_Ta_init_18 : decode b_Ta_init 18 = .ok (.if_icmp .ge 22, 3) := by decide +kernel
theorem d_Ta_init_21 : decode b_Ta_init 21 = .ok (.aload_n 0, 1) := by decide +kernel
theorem d_Ta_init_22 : decode b_Ta_init 22 = .ok (.getfield 11, 3) := by decide +kernel
theorem d_Ta_init_25 : decode b_Ta_init 25 = .ok (.iload_n 1, 1) := by decide +kernel
theorem d_Ta_init_26 : decode b_Ta_init 26 = .ok (.new 9, 3) := by decide +kernel
theorem d_Ta_init_29 : decode b_Ta_init 29 = .ok (.dup, 1) := by decide +kernel
theorem d_Ta_init_30 : decode b_Ta_init 30 = .ok (.invokespecial 17, 3) := by decide +kernel
theorem d_Ta_init_33 : decode b_Ta_init 33 = .ok (.aastore, 1) := by decide +kernel
theorem d_Ta_init_34 : decode b_Ta_init 34 = .ok (.iinc 1 1, 3) := by decide +kernel
theorem d_Ta_init_37 : decode b_Ta_init 37 = .ok (.goto (-22), 3) := by decide +kernel
theorem d_Ta_init_40 : decode b_Ta_init 40 = .ok (.aload_n 0, 1) := by decide +kernel
theorem d_Ta_init_41 : decode b_Ta_init 41 = .ok (.iconst 0, 1) := by decide +kernel
theorem d_Ta_init_42 : decode b_Ta_init 42 = .ok (.putfield 18, 3) := by decide +kernel
theorem d_Ta_init_45 : decode b_Ta_init 45 = .ok (.iconst 0, 1) := by decide +kernel
theorem d_Ta_init_46 : decode b_Ta_init 46 = .ok (.istore_n 1, 1) := by decide +kernel
theorem d_Ta_init_47 : decode b_Ta_init 47 = .ok (.iload_n 1, 1) := by decide +kernel
theorem d_Ta_init_48 : decode b_Ta_init 48 = .ok (.getstatic 22, 3) := by decide +kernel
theorem d_Ta_init_51 : decode b_Ta_init 51 = .ok (.arraylength, 1) := by decide +kernel
theorem d_Ta_init_52 : decode b_Ta_init 52 = .ok (.if_icmp .ge 39, 3) := by decide +kernel
theorem d_Ta_init_55 : decode b_Ta_init 55 = .ok (.iload_n 1, 1) := by decide +kernel
theorem d_Ta_init_56 : decode b_Ta_init 56 = .ok (.bipush 60, 2) := by decide +kernel
theorem d_Ta_init_58 : decode b_Ta_init 58 = .ok (.if_icmp .ge 33, 3) := by decide +kernel
theorem d_Ta_init_61 : decode b_Ta_init 61 = .ok (.aload_n 0, 1) := by decide +kernel
theorem d_Ta_init_62 : decode b_Ta_init 62 = .ok (.getfield 11, 3) := by decide +kernel
theorem d_Ta_init_65 : decode b_Ta_init 65 = .ok (.iload_n 1, 1) := by decide +kernel
theorem d_Ta_init_66 : decode b_Ta_init 66 = .ok (.aaload, 1) := by decide +kernel
theorem d_Ta_init_67 : decode b_Ta_init 67 = .ok (.getstatic 22, 3) := by decide +kernel
theorem d_Ta_init_70 : decode b_Ta_init 70 = .ok (.iload_n 1, 1) := by decide +kernel
theorem d_Ta_init_71 : decode b_Ta_init 71 = .ok (.aaload, 1) := by decide +kernel
theorem d_Ta_init_72 : decode b_Ta_init 72 = .ok (.invokevirtual 28, 3) := by decide +kernel
theorem d_Ta_init_75 : decode b_Ta_init 75 = .ok (.aload_n 0, 1) := by decide +kernel
theorem d_Ta_init_76 : decode b_Ta_init 76 = .ok (.dup, 1) := by decide +kernel
theorem d_Ta_init_77 : decode b_Ta_init 77 = .ok (.getfield 18, 3) := by decide +kernel
theorem d_Ta_init_80 : decode b_Ta_init 80 = .ok (.iconst 1, 1) := by decide +kernel
theorem d_Ta_init_81 : decode b_Ta_init 81 = .ok (.iadd, 1) := by decide +kernel
theorem d_Ta_init_82 : decode b_Ta_init 82 = .ok (.putfield 18, 3) := by decide +kernel
theorem d_Ta_init_85 : decode b_Ta_init 85 = .ok (.iinc 1 1, 3) := by decide +kernel
theorem d_Ta_init_88 : decode b_Ta_init 88 = .ok (.goto (-41), 3) := by decide +kernel
theorem d_Ta_init_91 : decode b_Ta_init 91 = .ok (.return_, 1) := by decide +kernel
theorem q_Ta_init : aw_q1 y_Ta_init b_Ta_init 2 none 0 := ⟨k_164, k_67, ⟨by decide, by decide, by decide +kernel⟩, by decide⟩
/-- a kind: 0 a body; k + 1 the constant of place k -/
def kV (G : aw_G) (k : Nat) : Value := match k with
  | 0 => .null
  | k + 1 => .ref (G.2.2.2.2 k)
theorem kV_nar (G : aw_G) (k : Nat) (n : String) : narrow (.object n) (kV G k) = kV G k := by cases k <;> rfl
theorem kV_fit (G : aw_G) (k : Nat) (n : String) : fits (.object n) (kV G k) = true := by cases k <;> rfl
def oDe (G : aw_G) (a k : Nat) : va_E := aObj 5 [rf G (a + 1), rf G (a + 3), kV G k]
abbrev Def : Type := List Nat × Nat × List Nat
def hDe (G : aw_G) (w : Nat → va_E) (a : Nat) (t : Def) : Prop := w a = oDe G a t.2.1 ∧ hTx G w (a + 1) 12 t.1 ∧ hTx G w (a + 3) 100 t.2.2
theorem hDe.keep {G : aw_G} {w w' : Nat → va_E} {a : Nat} {t : Def} {lo hi : Nat} (h : hDe G w a t) (hf : fr lo hi w w') (h1 : a + 5 ≤ lo ∨ hi ≤ a) : hDe G w' a t := ⟨(hf _ (by omega)).trans h.1, h.2.1.keep hf (by omega), h.2.2.keep hf (by omega)⟩
section
variable {G : aw_G} {nx d : Nat} {w : Nat → va_E}
theorem s_De_setBody {a q l u v : Nat} {t : Def} {f : Nat → Nat} (ha : a + 4 < nx) (hq : q < nx) (haq : q < a ∨ a + 5 ≤ q) (hd : 3 ≤ d) (hl : l < 2 ^ 20) (huv : u ≤ v) (hvl : v ≤ l) (hf : ∀ j, f j < 65536) (h : hDe G w a t) (h3 : w q = aCh G l f) : AC G y_De_setBody b_De_setBody 4 none d false [rf G a, rf G q, .int (nI u), .int (nI v)] nx w 0 0 (fun r w' nx' => nx' = nx ∧ r = none ∧ hDe G w' a (t.1, 0, (sl f u (v - u)).take 100) ∧ fr a (a + 5) w w') := by
  obtain ⟨h1, h2, h4⟩ := h
  have h1' : w a = aObj 5 [rf G (a + 1), rf G (a + 3), kV G t.2.1] := h1
  refine AC.ofW (by decide) (Nat.le_of_ble_eq_true rfl) ?_
  intro E P hP Y X
  have X : aw_X G "RescanDesk$Definition" b_De_setBody 4 none "setBody" _ _ _ _ _ E := X
  refine AW.eql (lv' := [(0, _), (1, _), (2, _), (3, _)]) (by rfl) ?_
  refine aw_aload_nR (pc := 0) X d_De_setBody_0 (by rfl) ?_
  refine aw_null (pc := 1) X d_De_setBody_1 ?_
  refine aw_putO (pc := 2) X _ 2 (by omega) (by (repeat (first | rw [aw_up_eq] | rw [aw_up_ne _ _ (by first | assumption | omega)])) <;> first | assumption | rfl) (by rfl) in_De (by decide) ty_De ok_De nm_De k_180 (by rfl) (by rfl) (by rfl) (by simp) (fs' := [_, _, _]) (by rfl) d_De_setBody_2 ?_
  refine aw_aload_nR (pc := 5) X d_De_setBody_5 (by rfl) ?_
  refine aw_getO (pc := 6) X _ 1 (by omega) (by (repeat (first | rw [aw_up_eq] | rw [aw_up_ne _ _ (by first | assumption | omega)])) <;> first | assumption | rfl) (by rfl) in_De (by decide) k_178 (by rfl) d_De_setBody_6 ?_
  refine aw_aload_nR (pc := 9) X d_De_setBody_9 (by rfl) ?_
  refine aw_iload_n (pc := 10) X d_De_setBody_10 (by rfl) ?_
  refine aw_iload_n (pc := 11) X d_De_setBody_11 (by rfl) ?_
  -- stop 12 lv=0:r,1:r,2:n,3:n st=n,n,r,r
  refine aw_callV (pc := 12) X _ (s_Tx_set (d := 2) (a := a + 3) (m := 100) (s := t.2.2) (q := q) (l := l) (f := f) (by omega) hq (by omega) (by omega) (by omega) hl huv hvl hf (h4.kept (by rw [aw_up_ne _ _ (by omega)]) (by rw [aw_up_ne _ _ (by omega)])) (by rw [aw_up_ne _ _ (by omega)]; exact h3)) q_Tx_set k_576 k_577 k_578 (by omega) (by rw [aw_up_ne _ _ (by omega)]; exact h4.obj) (by rfl) d_De_setBody_12 (by omega) (Nat.le_of_ble_eq_true rfl) ⟨by omega, by omega⟩ (fun h => by cases h) (fun r w' nx' hp => ?_)
  obtain ⟨rfl, rfl, ht, hf2⟩ := hp
  refine aw_vret Y X rfl d_De_setBody_15 (by omega) (by omega) (hP _ _ _ ?_)
  -- ret 15 lv=0:r,1:r,2:n,3:n st=
  have hfa : fr a (a + 5) w w' := ((fr.refl _ _ _).up _ (by omega)).trans (hf2.mono (by omega) (by omega))
  exact ⟨rfl, rfl, ⟨(hf2 _ (by omega)).trans (aw_up_eq _ _ _), h2.kept ((hf2 _ (by omega)).trans (by rw [aw_up_ne _ _ (by omega)])) ((hf2 _ (by omega)).trans (by rw [aw_up_ne _ _ (by omega)])), ht⟩, hfa⟩
theorem s_De_copy {a c : Nat} {t u : Def} (ha : a + 4 < nx) (hc : c + 4 < nx) (hac : c + 5 ≤ a ∨ a + 5 ≤ c) (hd : 3 ≤ d) (h : hDe G w a t) (h' : hDe G w c u) : AC G y_De_copy b_De_copy 2 none d false [rf G a, rf G c] nx w 0 0 (fun r w' nx' => nx' = nx ∧ r = none ∧ hDe G w' a u ∧ fr a (a + 5) w w') := by
  obtain ⟨h1, h2, h4⟩ := h
  have h1' : w a = aObj 5 [rf G (a + 1), rf G (a + 3), kV G t.2.1] := h1
  refine AC.ofW (by decide) (Nat.le_of_ble_eq_true rfl) ?_
  intro E P hP Y X
  have X : aw_X G "RescanDesk$Definition" b_De_copy 2 none "copy" _ _ _ _ _ E := X
  refine AW.eql (lv' := [(0, _), (1, _)]) (by rfl) ?_
  have k1' : w c = aObj 5 [rf G (c + 1), rf G (c + 3), kV G u.2.1] := h'.1
  refine aw_aload_nR (pc := 0) X d_De_copy_0 (by rfl) ?_
  refine aw_aload_nR (pc := 1) X d_De_copy_1 (by rfl) ?_
  refine aw_getO (pc := 2) X _ 2 (by omega) (by (repeat (first | rw [aw_up_eq] | rw [aw_up_ne _ _ (by first | assumption | omega)])) <;> first | assumption | rfl) (by rfl) in_De (by decide) k_180 (by rfl) d_De_copy_2 ?_
  refine aw_putO (pc := 5) X _ 2 (by omega) (by (repeat (first | rw [aw_up_eq] | rw [aw_up_ne _ _ (by first | assumption | omega)])) <;> first | assumption | rfl) (by rfl) in_De (by decide) ty_De ok_De nm_De k_180 (by rfl) (kV_nar G _ _) (kV_fit G _ _) (by simp) (fs' := [_, _, _]) (by rfl) d_De_copy_5 ?_
  -- stop 8 lv=0:r,1:r st=
  generalize hw1 : aw_up w a _ = w1
  have f1 : fr a (a + 5) w w1 := by rw [← hw1]; exact (fr.refl _ _ _).up _ (by omega)
  have a1 : w1 a = aObj 5 [rf G (a + 1), rf G (a + 3), kV G u.2.1] := by rw [← hw1]; exact aw_up_eq _ _ _
  have h2 : hTx G w1 (a + 1) 12 t.1 := h2.kept (by rw [← hw1, aw_up_ne _ _ (by omega)]) (by rw [← hw1, aw_up_ne _ _ (by omega)])
  have h4 : hTx G w1 (a + 3) 100 t.2.2 := h4.kept (by rw [← hw1, aw_up_ne _ _ (by omega)]) (by rw [← hw1, aw_up_ne _ _ (by omega)])
  have hc1 : hDe G w1 c u := h'.keep f1 (by omega)
  obtain ⟨k1, k2, k4⟩ := hc1
  have k1' : w1 c = aObj 5 [rf G (c + 1), rf G (c + 3), kV G u.2.1] := k1
  obtain ⟨g1, en2, en3, en5⟩ := k2.arr
  have en1 := k2.obj
  have eb1 := k4.obj
  refine aw_aload_nR (pc := 8) X d_De_copy_8 (by rfl) ?_
  refine aw_getO (pc := 9) X _ 0 (by omega) (by (repeat (first | rw [aw_up_eq] | rw [aw_up_ne _ _ (by first | assumption | omega)])) <;> first | assumption | rfl) (by rfl) in_De (by decide) k_175 (by rfl) d_De_copy_9 ?_
  refine aw_aload_nR (pc := 12) X d_De_copy_12 (by rfl) ?_
  refine aw_getO (pc := 13) X _ 0 (by omega) (by (repeat (first | rw [aw_up_eq] | rw [aw_up_ne _ _ (by first | assumption | omega)])) <;> first | assumption | rfl) (by rfl) in_De (by decide) k_175 (by rfl) d_De_copy_13 ?_
  refine aw_getNO (pc := 16) X _ 0 (by omega) (by (repeat (first | rw [aw_up_eq] | rw [aw_up_ne _ _ (by first | assumption | omega)])) <;> first | assumption | rfl) (by rfl) in_Tx (by decide) k_107 (by rfl) d_De_copy_16 ?_
  refine aw_iconstN (pc := 19) X 0 d_De_copy_19 (by decide) ?_
  refine aw_aload_nR (pc := 20) X d_De_copy_20 (by rfl) ?_
  refine aw_getO (pc := 21) X _ 0 (by omega) (by (repeat (first | rw [aw_up_eq] | rw [aw_up_ne _ _ (by first | assumption | omega)])) <;> first | assumption | rfl) (by rfl) in_De (by decide) k_175 (by rfl) d_De_copy_21 ?_
  refine aw_getNO (pc := 24) X _ 1 (by omega) (by (repeat (first | rw [aw_up_eq] | rw [aw_up_ne _ _ (by first | assumption | omega)])) <;> first | assumption | rfl) (by rfl) in_Tx (by decide) k_117 (by rfl) d_De_copy_24 ?_
  -- stop 27 lv=0:r,1:r st=n,n,r,r
  refine aw_callV (pc := 27) X _ (s_Tx_set (d := 2) (a := a + 1) (m := 12) (s := t.1) (q := c + 1 + 1) (l := 12) (f := g1) (u := 0) (v := u.1.length) (by omega) (by omega) (by omega) (by omega) (by omega) (by omega) (by omega) k2.le en5 h2 en2) q_Tx_set k_576 k_577 k_578 (by omega) h2.obj (by rfl) d_De_copy_27 (by omega) (Nat.le_of_ble_eq_true rfl) ⟨by omega, by omega⟩ (fun h => by cases h) (fun r w2 nx2 hp => ?_)
  obtain ⟨rfl, rfl, ht, hf2⟩ := hp
  rw [Nat.sub_zero, ← en3, List.take_of_length_le k2.le] at ht
  have a2 : w2 a = aObj 5 [rf G (a + 1), rf G (a + 3), kV G u.2.1] := (hf2 _ (by omega)).trans a1
  have h5 : hTx G w2 (a + 3) 100 t.2.2 := h4.keep hf2 (by omega)
  have k6 : w2 c = aObj 5 [rf G (c + 1), rf G (c + 3), kV G u.2.1] := (hf2 _ (by omega)).trans k1'
  have k5 : hTx G w2 (c + 3) 100 u.2.2 := k4.keep hf2 (by omega)
  obtain ⟨g2, eb2, eb3, eb5⟩ := k5.arr
  have eb1 := k5.obj
  refine aw_aload_nR (pc := 30) X d_De_copy_30 (by rfl) ?_
  refine aw_getO (pc := 31) X _ 1 (by omega) (by (repeat (first | rw [aw_up_eq] | rw [aw_up_ne _ _ (by first | assumption | omega)])) <;> first | assumption | rfl) (by rfl) in_De (by decide) k_178 (by rfl) d_De_copy_31 ?_
  refine aw_aload_nR (pc := 34) X d_De_copy_34 (by rfl) ?_
  refine aw_getO (pc := 35) X _ 1 (by omega) (by (repeat (first | rw [aw_up_eq] | rw [aw_up_ne _ _ (by first | assumption | omega)])) <;> first | assumption | rfl) (by rfl) in_De (by decide) k_178 (by rfl) d_De_copy_35 ?_
  refine aw_getNO (pc := 38) X _ 0 (by omega) (by (repeat (first | rw [aw_up_eq] | rw [aw_up_ne _ _ (by first | assumption | omega)])) <;> first | assumption | rfl) (by rfl) in_Tx (by decide) k_107 (by rfl) d_De_copy_38 ?_
  refine aw_iconstN (pc := 41) X 0 d_De_copy_41 (by decide) ?_
  refine aw_aload_nR (pc := 42) X d_De_copy_42 (by rfl) ?_
  refine aw_getO (pc := 43) X _ 1 (by omega) (by (repeat (first | rw [aw_up_eq] | rw [aw_up_ne _ _ (by first | assumption | omega)])) <;> first | assumption | rfl) (by rfl) in_De (by decide) k_178 (by rfl) d_De_copy_43 ?_
  refine aw_getNO (pc := 46) X _ 1 (by omega) (by (repeat (first | rw [aw_up_eq] | rw [aw_up_ne _ _ (by first | assumption | omega)])) <;> first | assumption | rfl) (by rfl) in_Tx (by decide) k_117 (by rfl) d_De_copy_46 ?_
  -- stop 49 lv=0:r,1:r st=n,n,r,r
  refine aw_callV (pc := 49) X _ (s_Tx_set (d := 2) (a := a + 3) (m := 100) (s := t.2.2) (q := c + 3 + 1) (l := 100) (f := g2) (u := 0) (v := u.2.2.length) (by omega) (by omega) (by omega) (by omega) (by omega) (by omega) (by omega) k5.le eb5 h5 eb2) q_Tx_set k_576 k_577 k_578 (by omega) h5.obj (by rfl) d_De_copy_49 (by omega) (Nat.le_of_ble_eq_true rfl) ⟨by omega, by omega⟩ (fun h => by cases h) (fun r w3 nx3 hp => ?_)
  obtain ⟨rfl, rfl, ht3, hf3⟩ := hp
  rw [Nat.sub_zero, ← eb3, List.take_of_length_le k5.le] at ht3
  refine aw_vret Y X rfl d_De_copy_52 (by omega) (by omega) (hP _ _ _ ?_)
  -- ret 52 lv=0:r,1:r st=
  exact ⟨rfl, rfl, ⟨(hf3 _ (by omega)).trans a2, ht.keep hf3 (by omega), ht3⟩, f1.trans ((hf2.mono (by omega) (by omega)).trans (hf3.mono (by omega) (by omega)))⟩
end

